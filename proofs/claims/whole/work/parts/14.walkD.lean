theorem ui_X8_thrown_X8 : ∀ w ∈ u_ws RX8 TX8 20, w ∈ wsX8_thrown := by decide +kernel
theorem m_X8_thrown_Cond_fieldLink_RX8_47_PerfectPewModel_thrown_I_ : Cond.fieldLink RX8 47 "PerfectPewModel" "thrown" "I" ∈ wsX8_thrown := by decide +kernel
set_option maxRecDepth 100000 in
set_option maxHeartbeats 4000000 in
theorem c_X8_thrown (l : Launch) (G : va_G) (cI cJ : ClassId) (ad : Nat → Nat) (a0 a1 a2 a3 a4 a5 a6 a7 a8 a9 a10 a11 a12 : Nat) (x_many : Int32) (x_built : Int32) (x_seed : Int32) (x_graphSeed : Int32) (x_bits : Int32) (x_bucketMany : Int32) (x_width : Int32) (x_thrown : Int32) (N : Nat) (x : Int32) (hF0 : F_X8_thrown N x_thrown = some x) : kk_I l yX8_thrown wsX8_thrown 0 0 0 0 [.ref a0] G cI cJ ad [(a0, .inr (8, [.ref a1, .int x_many, .int x_built, .int x_seed, .int x_graphSeed, .int x_bits, .int x_bucketMany, .int x_width, .ref a2, .ref a3, .ref a4, .ref a5, .ref a6, .ref a7, .ref a8, .ref a9, .ref a10, .ref a11, .ref a12, .int x_thrown]))] x [(a0, .inr (8, [.ref a1, .int x_many, .int x_built, .int x_seed, .int x_graphSeed, .int x_bits, .int x_bucketMany, .int x_width, .ref a2, .ref a3, .ref a4, .ref a5, .ref a6, .ref a7, .ref a8, .ref a9, .ref a10, .ref a11, .ref a12, .int x_thrown]))] := by
  refine kk_ofI (cc := cX8_thrown) (maxL := 1) (by decide) rfl (Nat.le_of_ble_eq_true rfl) ?_
  intro p e s m below meth c A Q ls H locs hx hb hml hown hts hE hw hl hret
  have F : kk_at p m c cX8_thrown 1 s _ wsX8_thrown RX8 G cI cJ ad A := ⟨⟨hx, hb, hml, hown, hts⟩, hE⟩
  have hl : lv_has ls 1 [(0, .ref a0)] := hl
  unfold F_X8_thrown at hF0
  refine lv_aload_n hx hb dX8_thrown_0 rfl (lv_at hl 0 rfl) ?_
  refine kk_get (T := TX8) F hw ui_X8_thrown_X8 0 rfl rfl 19 (by decide) m_X8_thrown_Cond_fieldLink_RX8_47_PerfectPewModel_thrown_I_ rfl dX8_thrown_1 ?_
  have hy := Option.some.inj hF0
  subst hy
  exact hret dX8_thrown_4 (by decide) (by decide) hw
theorem ui_X8_fails_X8 : ∀ w ∈ u_ws RX8 TX8 20, w ∈ wsX8_fails := by decide +kernel
theorem m_X8_fails_Cond_fieldLink_RX8_47_PerfectPewModel_thrown_I_ : Cond.fieldLink RX8 47 "PerfectPewModel" "thrown" "I" ∈ wsX8_fails := by decide +kernel
set_option maxRecDepth 100000 in
set_option maxHeartbeats 4000000 in
theorem c_X8_fails (l : Launch) (G : va_G) (cI cJ : ClassId) (ad : Nat → Nat) (a0 a1 a2 a3 a4 a5 a6 a7 a8 a9 a10 a11 a12 : Nat) (x_many : Int32) (x_built : Int32) (x_seed : Int32) (x_graphSeed : Int32) (x_bits : Int32) (x_bucketMany : Int32) (x_width : Int32) (x_thrown : Int32) (i1 : Int32) (N : Nat) (x : (Int32 × Int32)) (hF0 : F_X8_fails N x_thrown i1 = some x) : kk_I l yX8_fails wsX8_fails 0 0 0 0 [.ref a0, .int i1] G cI cJ ad [(a0, .inr (8, [.ref a1, .int x_many, .int x_built, .int x_seed, .int x_graphSeed, .int x_bits, .int x_bucketMany, .int x_width, .ref a2, .ref a3, .ref a4, .ref a5, .ref a6, .ref a7, .ref a8, .ref a9, .ref a10, .ref a11, .ref a12, .int x_thrown]))] x.1 [(a0, .inr (8, [.ref a1, .int x_many, .int x_built, .int x_seed, .int x_graphSeed, .int x_bits, .int x_bucketMany, .int x_width, .ref a2, .ref a3, .ref a4, .ref a5, .ref a6, .ref a7, .ref a8, .ref a9, .ref a10, .ref a11, .ref a12, .int x.2]))] := by
  refine kk_ofI (cc := cX8_fails) (maxL := 2) (by decide) rfl (Nat.le_of_ble_eq_true rfl) ?_
  intro p e s m below meth c A Q ls H locs hx hb hml hown hts hE hw hl hret
  have F : kk_at p m c cX8_fails 2 s _ wsX8_fails RX8 G cI cJ ad A := ⟨⟨hx, hb, hml, hown, hts⟩, hE⟩
  have hl : lv_has ls 2 [(0, .ref a0), (1, .int i1)] := hl
  unfold F_X8_fails at hF0
  refine lv_aload_n hx hb dX8_fails_0 rfl (lv_at hl 0 rfl) ?_
  refine lv_iload_n hx hb dX8_fails_1 rfl (lv_at hl 1 rfl) ?_
  refine kk_put F hw ui_X8_fails_X8 tyX8 tyX8_ok nmX8 0 rfl rfl 19 (by decide) m_X8_fails_Cond_fieldLink_RX8_47_PerfectPewModel_thrown_I_ rfl rfl rfl (Nat.le_of_ble_eq_true rfl) dX8_fails_2 (fun H locs hw => ?_)
  have hw : kk_wd G A s.heap [(a0, .inr (8, [.ref a1, .int x_many, .int x_built, .int x_seed, .int x_graphSeed, .int x_bits, .int x_bucketMany, .int x_width, .ref a2, .ref a3, .ref a4, .ref a5, .ref a6, .ref a7, .ref a8, .ref a9, .ref a10, .ref a11, .ref a12, .int i1]))] H locs := hw
  refine lv_iconst (v := 0) hx hb dX8_fails_5 (by decide) ?_
  have hy := Option.some.inj hF0
  subst hy
  exact hret dX8_fails_6 (by decide) (by decide) hw
set_option maxRecDepth 100000 in
set_option maxHeartbeats 4000000 in
theorem c_X8_in (l : Launch) (G : va_G) (cI cJ : ClassId) (ad : Nat → Nat) (i0 : Int32) (i1 : Int32) (i2 : Int32) (N : Nat) (x : Int32) (hF0 : F_X8_in N i0 i1 i2 = some x) : kk_I l yX8_in wsX8_in 0 0 0 0 [.int i0, .int i1, .int i2] G cI cJ ad [] x [] := by
  refine kk_ofZ (cc := cX8_in) (maxL := 3) (by decide) rfl (Nat.le_of_ble_eq_true rfl) ?_
  intro p e s m below meth c A Q ls H locs hx hb hml hown hts hE hw hl hret
  have F : kk_at p m c cX8_in 3 s _ wsX8_in RX8 G cI cJ ad A := ⟨⟨hx, hb, hml, hown, hts⟩, hE⟩
  have hl : lv_has ls 3 [(0, .int i0), (1, .int i1), (2, .int i2)] := hl
  unfold F_X8_in at hF0
  have hJ1 : ∀ (s0_1 : Int32), J_X8_in_15 N s0_1 = some x → ∀ (H : Heap) (locs : List Loc) (ls : Array Slot), kk_wd G A s.heap [] H locs → lv_has ls 3 [] → W p l e (kk_rm 0 0 0 0) s m ([.int i0, .int i1, .int i2] : List Value).toArray below meth c H locs 0 0 Q (F0 m 15 ls [.int s0_1]) := by
    intro s0_1 hF0 H locs ls hw hl
    unfold J_X8_in_15 at hF0
    obtain ⟨u2, eu2, hF0⟩ := kk_bind hF0
    have hy := Option.some.inj hF0
    subst hy
    exact hret dX8_in_15 (by decide) (by decide) (kk_bl_ok eu2) hw
  have hJ3 : ∀ (_ : Unit), J_X8_in_14 N = some x → ∀ (H : Heap) (locs : List Loc) (ls : Array Slot), kk_wd G A s.heap [] H locs → lv_has ls 3 [] → W p l e (kk_rm 0 0 0 0) s m ([.int i0, .int i1, .int i2] : List Value).toArray below meth c H locs 0 0 Q (F0 m 14 ls []) := by
    intro _ hF0 H locs ls hw hl
    unfold J_X8_in_14 at hF0
    refine lv_iconst (v := 0) hx hb dX8_in_14 (by decide) ?_
    exact hJ1 0 hF0 _ _ _ hw (lv_sub hl [] rfl)
  refine lv_iload_n hx hb dX8_in_0 rfl (lv_at hl 0 rfl) ?_
  refine lv_iload_n hx hb dX8_in_1 rfl (lv_at hl 1 rfl) ?_
  refine lv_icmp_lt (tgt := 14) hx hb dX8_in_2 (by decide) (fun c4 => ?_) (fun c4 => ?_)
  · have hF0 := (if_pos c4).symm.trans hF0
    exact hJ3 ()  hF0 _ _ _ hw (lv_sub hl [] rfl)
  · have hF0 := (if_neg c4).symm.trans hF0
    refine lv_iload_n hx hb dX8_in_5 rfl (lv_at hl 0 rfl) ?_
    refine lv_iload_n hx hb dX8_in_6 rfl (lv_at hl 2 rfl) ?_
    refine lv_icmp_gt (tgt := 14) hx hb dX8_in_7 (by decide) (fun c5 => ?_) (fun c5 => ?_)
    · have hF0 := (if_pos c5).symm.trans hF0
      exact hJ3 ()  hF0 _ _ _ hw (lv_sub hl [] rfl)
    · have hF0 := (if_neg c5).symm.trans hF0
      refine lv_iconst (v := 1) hx hb dX8_in_10 (by decide) ?_
      refine lv_goto (tgt := 15) hx hb dX8_in_11 (by decide) ?_
      exact hJ1 1 hF0 _ _ _ hw (lv_sub hl [] rfl)
theorem m_X8_first_Cond_constantLong_RX8_61_756839_ : Cond.constantLong RX8 61 (756839) ∈ wsX8_first := by decide +kernel
theorem m_X8_first_Cond_constantLong_RX8_59_86243_ : Cond.constantLong RX8 59 (86243) ∈ wsX8_first := by decide +kernel
theorem m_X8_first_Cond_constantLong_RX8_57_611953_ : Cond.constantLong RX8 57 (611953) ∈ wsX8_first := by decide +kernel
theorem m_X8_first_Cond_constantLong_RX8_55_31337_ : Cond.constantLong RX8 55 (31337) ∈ wsX8_first := by decide +kernel
theorem m_X8_first_Cond_constantLong_RX8_53_104729_ : Cond.constantLong RX8 53 (104729) ∈ wsX8_first := by decide +kernel
theorem m_X8_first_Cond_constantLong_RX8_51_9973_ : Cond.constantLong RX8 51 (9973) ∈ wsX8_first := by decide +kernel
set_option maxRecDepth 100000 in
set_option maxHeartbeats 4000000 in
theorem c_X8_first (l : Launch) (G : va_G) (cI cJ : ClassId) (ad : Nat → Nat) (i0 : Int32) (N : Nat) (x : Int64) (hF0 : F_X8_first N i0 = some x) : kk_L l yX8_first wsX8_first 0 0 0 0 [.int i0] G cI cJ ad [] x [] := by
  refine kk_ofL (cc := cX8_first) (maxL := 1) (by decide) rfl (Nat.le_of_ble_eq_true rfl) ?_
  intro p e s m below meth c A Q ls H locs hx hb hml hown hts hE hw hl hret
  have F : kk_at p m c cX8_first 1 s _ wsX8_first RX8 G cI cJ ad A := ⟨⟨hx, hb, hml, hown, hts⟩, hE⟩
  have hl : lv_has ls 1 [(0, .int i0)] := hl
  unfold F_X8_first at hF0
  have hJ1 : ∀ (s0_1 : Int64), J_X8_first_57 N s0_1 = some x → ∀ (H : Heap) (locs : List Loc) (ls : Array Slot), kk_wd G A s.heap [] H locs → lv_has ls 1 [] → W p l e (kk_rm 0 0 0 0) s m ([.int i0] : List Value).toArray below meth c H locs 0 0 Q (F0 m 57 ls [.long s0_1]) := by
    intro s0_1 hF0 H locs ls hw hl
    unfold J_X8_first_57 at hF0
    have hy := Option.some.inj hF0
    subst hy
    exact hret dX8_first_57 (by decide) (by decide) hw
  refine lv_iload_n hx hb dX8_first_0 rfl (lv_at hl 0 rfl) ?_
  refine lv_if_ne (tgt := 10) hx hb dX8_first_1 (by decide) (fun c2 => ?_) (fun c2 => ?_)
  · have hF0 := (if_neg c2).symm.trans hF0
    refine lv_iload_n hx hb dX8_first_10 rfl (lv_at hl 0 rfl) ?_
    refine lv_iconst (v := 1) hx hb dX8_first_11 (by decide) ?_
    refine lv_icmp_ne (tgt := 21) hx hb dX8_first_12 (by decide) (fun c3 => ?_) (fun c3 => ?_)
    · have hF0 := (if_neg c3).symm.trans hF0
      refine lv_iload_n hx hb dX8_first_21 rfl (lv_at hl 0 rfl) ?_
      refine lv_iconst (v := 2) hx hb dX8_first_22 (by decide) ?_
      refine lv_icmp_ne (tgt := 32) hx hb dX8_first_23 (by decide) (fun c4 => ?_) (fun c4 => ?_)
      · have hF0 := (if_neg c4).symm.trans hF0
        refine lv_iload_n hx hb dX8_first_32 rfl (lv_at hl 0 rfl) ?_
        refine lv_iconst (v := 3) hx hb dX8_first_33 (by decide) ?_
        refine lv_icmp_ne (tgt := 43) hx hb dX8_first_34 (by decide) (fun c5 => ?_) (fun c5 => ?_)
        · have hF0 := (if_neg c5).symm.trans hF0
          refine lv_iload_n hx hb dX8_first_43 rfl (lv_at hl 0 rfl) ?_
          refine lv_iconst (v := 4) hx hb dX8_first_44 (by decide) ?_
          refine lv_icmp_ne (tgt := 54) hx hb dX8_first_45 (by decide) (fun c6 => ?_) (fun c6 => ?_)
          · have hF0 := (if_neg c6).symm.trans hF0
            refine lv_ldc2 hx hb hown (hts _ m_X8_first_Cond_constantLong_RX8_61_756839_) dX8_first_54 ?_
            exact hJ1 756839 hF0 _ _ _ hw (lv_sub hl [] rfl)
          · have hF0 := (if_pos c6).symm.trans hF0
            refine lv_ldc2 hx hb hown (hts _ m_X8_first_Cond_constantLong_RX8_59_86243_) dX8_first_48 ?_
            refine lv_goto (tgt := 57) hx hb dX8_first_51 (by decide) ?_
            exact hJ1 86243 hF0 _ _ _ hw (lv_sub hl [] rfl)
        · have hF0 := (if_pos c5).symm.trans hF0
          refine lv_ldc2 hx hb hown (hts _ m_X8_first_Cond_constantLong_RX8_57_611953_) dX8_first_37 ?_
          refine lv_goto (tgt := 57) hx hb dX8_first_40 (by decide) ?_
          exact hJ1 611953 hF0 _ _ _ hw (lv_sub hl [] rfl)
      · have hF0 := (if_pos c4).symm.trans hF0
        refine lv_ldc2 hx hb hown (hts _ m_X8_first_Cond_constantLong_RX8_55_31337_) dX8_first_26 ?_
        refine lv_goto (tgt := 57) hx hb dX8_first_29 (by decide) ?_
        exact hJ1 31337 hF0 _ _ _ hw (lv_sub hl [] rfl)
    · have hF0 := (if_pos c3).symm.trans hF0
      refine lv_ldc2 hx hb hown (hts _ m_X8_first_Cond_constantLong_RX8_53_104729_) dX8_first_15 ?_
      refine lv_goto (tgt := 57) hx hb dX8_first_18 (by decide) ?_
      exact hJ1 104729 hF0 _ _ _ hw (lv_sub hl [] rfl)
  · have hF0 := (if_pos c2).symm.trans hF0
    refine lv_ldc2 hx hb hown (hts _ m_X8_first_Cond_constantLong_RX8_51_9973_) dX8_first_4 ?_
    refine lv_goto (tgt := 57) hx hb dX8_first_7 (by decide) ?_
    exact hJ1 9973 hF0 _ _ _ hw (lv_sub hl [] rfl)
theorem m_X8_second_Cond_constantLong_RX8_73_44497_ : Cond.constantLong RX8 73 (44497) ∈ wsX8_second := by decide +kernel
theorem m_X8_second_Cond_constantLong_RX8_71_65537_ : Cond.constantLong RX8 71 (65537) ∈ wsX8_second := by decide +kernel
theorem m_X8_second_Cond_constantLong_RX8_69_39916_ : Cond.constantLong RX8 69 (39916) ∈ wsX8_second := by decide +kernel
theorem m_X8_second_Cond_constantLong_RX8_67_27644_ : Cond.constantLong RX8 67 (27644) ∈ wsX8_second := by decide +kernel
theorem m_X8_second_Cond_constantLong_RX8_65_15485_ : Cond.constantLong RX8 65 (15485) ∈ wsX8_second := by decide +kernel
theorem m_X8_second_Cond_constantLong_RX8_63_7919_ : Cond.constantLong RX8 63 (7919) ∈ wsX8_second := by decide +kernel
set_option maxRecDepth 100000 in
set_option maxHeartbeats 4000000 in
theorem c_X8_second (l : Launch) (G : va_G) (cI cJ : ClassId) (ad : Nat → Nat) (i0 : Int32) (N : Nat) (x : Int64) (hF0 : F_X8_second N i0 = some x) : kk_L l yX8_second wsX8_second 0 0 0 0 [.int i0] G cI cJ ad [] x [] := by
  refine kk_ofL (cc := cX8_second) (maxL := 1) (by decide) rfl (Nat.le_of_ble_eq_true rfl) ?_
  intro p e s m below meth c A Q ls H locs hx hb hml hown hts hE hw hl hret
  have F : kk_at p m c cX8_second 1 s _ wsX8_second RX8 G cI cJ ad A := ⟨⟨hx, hb, hml, hown, hts⟩, hE⟩
  have hl : lv_has ls 1 [(0, .int i0)] := hl
  unfold F_X8_second at hF0
  have hJ1 : ∀ (s0_1 : Int64), J_X8_second_57 N s0_1 = some x → ∀ (H : Heap) (locs : List Loc) (ls : Array Slot), kk_wd G A s.heap [] H locs → lv_has ls 1 [] → W p l e (kk_rm 0 0 0 0) s m ([.int i0] : List Value).toArray below meth c H locs 0 0 Q (F0 m 57 ls [.long s0_1]) := by
    intro s0_1 hF0 H locs ls hw hl
    unfold J_X8_second_57 at hF0
    have hy := Option.some.inj hF0
    subst hy
    exact hret dX8_second_57 (by decide) (by decide) hw
  refine lv_iload_n hx hb dX8_second_0 rfl (lv_at hl 0 rfl) ?_
  refine lv_if_ne (tgt := 10) hx hb dX8_second_1 (by decide) (fun c2 => ?_) (fun c2 => ?_)
  · have hF0 := (if_neg c2).symm.trans hF0
    refine lv_iload_n hx hb dX8_second_10 rfl (lv_at hl 0 rfl) ?_
    refine lv_iconst (v := 1) hx hb dX8_second_11 (by decide) ?_
    refine lv_icmp_ne (tgt := 21) hx hb dX8_second_12 (by decide) (fun c3 => ?_) (fun c3 => ?_)
    · have hF0 := (if_neg c3).symm.trans hF0
      refine lv_iload_n hx hb dX8_second_21 rfl (lv_at hl 0 rfl) ?_
      refine lv_iconst (v := 2) hx hb dX8_second_22 (by decide) ?_
      refine lv_icmp_ne (tgt := 32) hx hb dX8_second_23 (by decide) (fun c4 => ?_) (fun c4 => ?_)
      · have hF0 := (if_neg c4).symm.trans hF0
        refine lv_iload_n hx hb dX8_second_32 rfl (lv_at hl 0 rfl) ?_
        refine lv_iconst (v := 3) hx hb dX8_second_33 (by decide) ?_
        refine lv_icmp_ne (tgt := 43) hx hb dX8_second_34 (by decide) (fun c5 => ?_) (fun c5 => ?_)
        · have hF0 := (if_neg c5).symm.trans hF0
          refine lv_iload_n hx hb dX8_second_43 rfl (lv_at hl 0 rfl) ?_
          refine lv_iconst (v := 4) hx hb dX8_second_44 (by decide) ?_
          refine lv_icmp_ne (tgt := 54) hx hb dX8_second_45 (by decide) (fun c6 => ?_) (fun c6 => ?_)
          · have hF0 := (if_neg c6).symm.trans hF0
            refine lv_ldc2 hx hb hown (hts _ m_X8_second_Cond_constantLong_RX8_73_44497_) dX8_second_54 ?_
            exact hJ1 44497 hF0 _ _ _ hw (lv_sub hl [] rfl)
          · have hF0 := (if_pos c6).symm.trans hF0
            refine lv_ldc2 hx hb hown (hts _ m_X8_second_Cond_constantLong_RX8_71_65537_) dX8_second_48 ?_
            refine lv_goto (tgt := 57) hx hb dX8_second_51 (by decide) ?_
            exact hJ1 65537 hF0 _ _ _ hw (lv_sub hl [] rfl)
        · have hF0 := (if_pos c5).symm.trans hF0
          refine lv_ldc2 hx hb hown (hts _ m_X8_second_Cond_constantLong_RX8_69_39916_) dX8_second_37 ?_
          refine lv_goto (tgt := 57) hx hb dX8_second_40 (by decide) ?_
          exact hJ1 39916 hF0 _ _ _ hw (lv_sub hl [] rfl)
      · have hF0 := (if_pos c4).symm.trans hF0
        refine lv_ldc2 hx hb hown (hts _ m_X8_second_Cond_constantLong_RX8_67_27644_) dX8_second_26 ?_
        refine lv_goto (tgt := 57) hx hb dX8_second_29 (by decide) ?_
        exact hJ1 27644 hF0 _ _ _ hw (lv_sub hl [] rfl)
    · have hF0 := (if_pos c3).symm.trans hF0
      refine lv_ldc2 hx hb hown (hts _ m_X8_second_Cond_constantLong_RX8_65_15485_) dX8_second_15 ?_
      refine lv_goto (tgt := 57) hx hb dX8_second_18 (by decide) ?_
      exact hJ1 15485 hF0 _ _ _ hw (lv_sub hl [] rfl)
  · have hF0 := (if_pos c2).symm.trans hF0
    refine lv_ldc2 hx hb hown (hts _ m_X8_second_Cond_constantLong_RX8_63_7919_) dX8_second_4 ?_
    refine lv_goto (tgt := 57) hx hb dX8_second_7 (by decide) ?_
    exact hJ1 7919 hF0 _ _ _ hw (lv_sub hl [] rfl)
theorem m_X8_third_Cond_constantLong_RX8_85_2203_ : Cond.constantLong RX8 85 (2203) ∈ wsX8_third := by decide +kernel
theorem m_X8_third_Cond_constantLong_RX8_83_313_ : Cond.constantLong RX8 83 (313) ∈ wsX8_third := by decide +kernel
theorem m_X8_third_Cond_constantLong_RX8_81_10007_ : Cond.constantLong RX8 81 (10007) ∈ wsX8_third := by decide +kernel
theorem m_X8_third_Cond_constantLong_RX8_79_1009_ : Cond.constantLong RX8 79 (1009) ∈ wsX8_third := by decide +kernel
theorem m_X8_third_Cond_constantLong_RX8_77_101_ : Cond.constantLong RX8 77 (101) ∈ wsX8_third := by decide +kernel
theorem m_X8_third_Cond_constantLong_RX8_75_11_ : Cond.constantLong RX8 75 (11) ∈ wsX8_third := by decide +kernel
set_option maxRecDepth 100000 in
set_option maxHeartbeats 4000000 in
theorem c_X8_third (l : Launch) (G : va_G) (cI cJ : ClassId) (ad : Nat → Nat) (i0 : Int32) (N : Nat) (x : Int64) (hF0 : F_X8_third N i0 = some x) : kk_L l yX8_third wsX8_third 0 0 0 0 [.int i0] G cI cJ ad [] x [] := by
  refine kk_ofL (cc := cX8_third) (maxL := 1) (by decide) rfl (Nat.le_of_ble_eq_true rfl) ?_
  intro p e s m below meth c A Q ls H locs hx hb hml hown hts hE hw hl hret
  have F : kk_at p m c cX8_third 1 s _ wsX8_third RX8 G cI cJ ad A := ⟨⟨hx, hb, hml, hown, hts⟩, hE⟩
  have hl : lv_has ls 1 [(0, .int i0)] := hl
  unfold F_X8_third at hF0
  have hJ1 : ∀ (s0_1 : Int64), J_X8_third_57 N s0_1 = some x → ∀ (H : Heap) (locs : List Loc) (ls : Array Slot), kk_wd G A s.heap [] H locs → lv_has ls 1 [] → W p l e (kk_rm 0 0 0 0) s m ([.int i0] : List Value).toArray below meth c H locs 0 0 Q (F0 m 57 ls [.long s0_1]) := by
    intro s0_1 hF0 H locs ls hw hl
    unfold J_X8_third_57 at hF0
    have hy := Option.some.inj hF0
    subst hy
    exact hret dX8_third_57 (by decide) (by decide) hw
  refine lv_iload_n hx hb dX8_third_0 rfl (lv_at hl 0 rfl) ?_
  refine lv_if_ne (tgt := 10) hx hb dX8_third_1 (by decide) (fun c2 => ?_) (fun c2 => ?_)
  · have hF0 := (if_neg c2).symm.trans hF0
    refine lv_iload_n hx hb dX8_third_10 rfl (lv_at hl 0 rfl) ?_
    refine lv_iconst (v := 1) hx hb dX8_third_11 (by decide) ?_
    refine lv_icmp_ne (tgt := 21) hx hb dX8_third_12 (by decide) (fun c3 => ?_) (fun c3 => ?_)
    · have hF0 := (if_neg c3).symm.trans hF0
      refine lv_iload_n hx hb dX8_third_21 rfl (lv_at hl 0 rfl) ?_
      refine lv_iconst (v := 2) hx hb dX8_third_22 (by decide) ?_
      refine lv_icmp_ne (tgt := 32) hx hb dX8_third_23 (by decide) (fun c4 => ?_) (fun c4 => ?_)
      · have hF0 := (if_neg c4).symm.trans hF0
        refine lv_iload_n hx hb dX8_third_32 rfl (lv_at hl 0 rfl) ?_
        refine lv_iconst (v := 3) hx hb dX8_third_33 (by decide) ?_
        refine lv_icmp_ne (tgt := 43) hx hb dX8_third_34 (by decide) (fun c5 => ?_) (fun c5 => ?_)
        · have hF0 := (if_neg c5).symm.trans hF0
          refine lv_iload_n hx hb dX8_third_43 rfl (lv_at hl 0 rfl) ?_
          refine lv_iconst (v := 4) hx hb dX8_third_44 (by decide) ?_
          refine lv_icmp_ne (tgt := 54) hx hb dX8_third_45 (by decide) (fun c6 => ?_) (fun c6 => ?_)
          · have hF0 := (if_neg c6).symm.trans hF0
            refine lv_ldc2 hx hb hown (hts _ m_X8_third_Cond_constantLong_RX8_85_2203_) dX8_third_54 ?_
            exact hJ1 2203 hF0 _ _ _ hw (lv_sub hl [] rfl)
          · have hF0 := (if_pos c6).symm.trans hF0
            refine lv_ldc2 hx hb hown (hts _ m_X8_third_Cond_constantLong_RX8_83_313_) dX8_third_48 ?_
            refine lv_goto (tgt := 57) hx hb dX8_third_51 (by decide) ?_
            exact hJ1 313 hF0 _ _ _ hw (lv_sub hl [] rfl)
        · have hF0 := (if_pos c5).symm.trans hF0
          refine lv_ldc2 hx hb hown (hts _ m_X8_third_Cond_constantLong_RX8_81_10007_) dX8_third_37 ?_
          refine lv_goto (tgt := 57) hx hb dX8_third_40 (by decide) ?_
          exact hJ1 10007 hF0 _ _ _ hw (lv_sub hl [] rfl)
      · have hF0 := (if_pos c4).symm.trans hF0
        refine lv_ldc2 hx hb hown (hts _ m_X8_third_Cond_constantLong_RX8_79_1009_) dX8_third_26 ?_
        refine lv_goto (tgt := 57) hx hb dX8_third_29 (by decide) ?_
        exact hJ1 1009 hF0 _ _ _ hw (lv_sub hl [] rfl)
    · have hF0 := (if_pos c3).symm.trans hF0
      refine lv_ldc2 hx hb hown (hts _ m_X8_third_Cond_constantLong_RX8_77_101_) dX8_third_15 ?_
      refine lv_goto (tgt := 57) hx hb dX8_third_18 (by decide) ?_
      exact hJ1 101 hF0 _ _ _ hw (lv_sub hl [] rfl)
  · have hF0 := (if_pos c2).symm.trans hF0
    refine lv_ldc2 hx hb hown (hts _ m_X8_third_Cond_constantLong_RX8_75_11_) dX8_third_4 ?_
    refine lv_goto (tgt := 57) hx hb dX8_third_7 (by decide) ?_
    exact hJ1 11 hF0 _ _ _ hw (lv_sub hl [] rfl)
theorem m_X8_hash_Cond_constantLong_RX8_97_1000003_ : Cond.constantLong RX8 97 (1000003) ∈ wsX8_hash := by decide +kernel
set_option maxRecDepth 100000 in
set_option maxHeartbeats 4000000 in
theorem c_X8_hash (l : Launch) (G : va_G) (cI cJ : ClassId) (ad : Nat → Nat) (i0 : Int32) (i1 : Int32) (i2 : Int32) (N : Nat) (x : Int32) (hF0 : F_X8_hash N i0 i1 i2 = some x) : kk_I l yX8_hash wsX8_hash 1 0 0 20 [.int i0, .int i1, .int i2] G cI cJ ad [] x [] := by
  refine kk_ofI (cc := cX8_hash) (maxL := 3) (by decide) rfl (Nat.le_of_ble_eq_true rfl) ?_
  intro p e s m below meth c A Q ls H locs hx hb hml hown hts hE hw hl hret
  have F : kk_at p m c cX8_hash 3 s _ wsX8_hash RX8 G cI cJ ad A := ⟨⟨hx, hb, hml, hown, hts⟩, hE⟩
  have hl : lv_has ls 3 [(0, .int i0), (1, .int i1), (2, .int i2)] := hl
  unfold F_X8_hash at hF0
  refine lv_iload_n hx hb dX8_hash_0 rfl (lv_at hl 1 rfl) ?_
  refine lv_i2l hx hb dX8_hash_1 rfl ?_
  refine lv_iload_n hx hb dX8_hash_2 rfl (lv_at hl 0 rfl) ?_
  obtain ⟨v1, ev1, hF0⟩ := kk_bind hF0
  refine kk_callL 0 0 hw (kk_runS (As := [.int i0]) (rest := [.long (Int32.toInt64 i1)]) F hw hl.1 (c_X8_first l G cI cJ ad i0 N v1 ev1 H.size) gX8_hash_X8_first rfl md_X8_first ⟨Nat.le_of_ble_eq_true rfl, Nat.le_of_ble_eq_true rfl⟩ ⟨Nat.le_of_ble_eq_true rfl, Nat.le_of_ble_eq_true rfl⟩ rfl (Nat.le_of_ble_eq_true rfl) dX8_hash_3) ⟨rfl, rfl⟩ [] (by decide) rfl rfl (fun H locs hw => ?_)
  refine lv_lmul hx hb dX8_hash_6 ?_
  refine lv_iload_n hx hb dX8_hash_7 rfl (lv_at hl 2 rfl) ?_
  refine lv_i2l hx hb dX8_hash_8 rfl ?_
  refine lv_iload_n hx hb dX8_hash_9 rfl (lv_at hl 0 rfl) ?_
  obtain ⟨v2, ev2, hF0⟩ := kk_bind hF0
  refine kk_callL 0 0 hw (kk_runS (As := [.int i0]) (rest := [.long (Int32.toInt64 i2), .long ((Int32.toInt64 i1) * v1)]) F hw hl.1 (c_X8_second l G cI cJ ad i0 N v2 ev2 H.size) gX8_hash_X8_second rfl md_X8_second ⟨Nat.le_of_ble_eq_true rfl, Nat.le_of_ble_eq_true rfl⟩ ⟨Nat.le_of_ble_eq_true rfl, Nat.le_of_ble_eq_true rfl⟩ rfl (Nat.le_of_ble_eq_true rfl) dX8_hash_10) ⟨rfl, rfl⟩ [] (by decide) rfl rfl (fun H locs hw => ?_)
  refine lv_lmul hx hb dX8_hash_13 ?_
  refine lv_ladd hx hb dX8_hash_14 ?_
  refine lv_iload_n hx hb dX8_hash_15 rfl (lv_at hl 0 rfl) ?_
  obtain ⟨v3, ev3, hF0⟩ := kk_bind hF0
  refine kk_callL 0 0 hw (kk_runS (As := [.int i0]) (rest := [.long (((Int32.toInt64 i1) * v1) + ((Int32.toInt64 i2) * v2))]) F hw hl.1 (c_X8_third l G cI cJ ad i0 N v3 ev3 H.size) gX8_hash_X8_third rfl md_X8_third ⟨Nat.le_of_ble_eq_true rfl, Nat.le_of_ble_eq_true rfl⟩ ⟨Nat.le_of_ble_eq_true rfl, Nat.le_of_ble_eq_true rfl⟩ rfl (Nat.le_of_ble_eq_true rfl) dX8_hash_16) ⟨rfl, rfl⟩ [] (by decide) rfl rfl (fun H locs hw => ?_)
  refine lv_ladd hx hb dX8_hash_19 ?_
  refine lv_ldc2 hx hb hown (hts _ m_X8_hash_Cond_constantLong_RX8_97_1000003_) dX8_hash_20 ?_
  refine lv_lrem hx hb dX8_hash_23 (by decide) ?_
  refine lv_l2i hx hb dX8_hash_24 rfl ?_
  have hy := Option.some.inj hF0
  subst hy
  exact hret dX8_hash_25 (by decide) (by decide) hw
theorem ui_X8_below_X8 : ∀ w ∈ u_ws RX8 TX8 20, w ∈ wsX8_below := by decide +kernel
theorem m_X8_below_Cond_fieldLink_RX8_99_PerfectPewModel_many_I_ : Cond.fieldLink RX8 99 "PerfectPewModel" "many" "I" ∈ wsX8_below := by decide +kernel
theorem m_X8_below_Cond_fieldLink_RX8_7_PerfectPewModel_keys_I_ : Cond.fieldLink RX8 7 "PerfectPewModel" "keys" "[I" ∈ wsX8_below := by decide +kernel
set_option maxRecDepth 100000 in
set_option maxHeartbeats 4000000 in
theorem c_X8_below (l : Launch) (G : va_G) (cI cJ : ClassId) (ad : Nat → Nat) (a0 a1 a2 a3 a4 a5 a6 a7 a8 a9 a10 a11 a12 : Nat) (x_many : Int32) (x_built : Int32) (x_seed : Int32) (x_graphSeed : Int32) (x_bits : Int32) (x_bucketMany : Int32) (x_width : Int32) (x_thrown : Int32) (f_keys : Nat → Int32) (i1 : Int32) (N : Nat) (x : Int32) (hF0 : F_X8_below N x_many f_keys i1 = some x) : kk_I l yX8_below wsX8_below 0 0 0 0 [.ref a0, .int i1] G cI cJ ad [(a0, .inr (8, [.ref a1, .int x_many, .int x_built, .int x_seed, .int x_graphSeed, .int x_bits, .int x_bucketMany, .int x_width, .ref a2, .ref a3, .ref a4, .ref a5, .ref a6, .ref a7, .ref a8, .ref a9, .ref a10, .ref a11, .ref a12, .int x_thrown])), (a1, .inl (cI, 120, .inl f_keys))] x [(a0, .inr (8, [.ref a1, .int x_many, .int x_built, .int x_seed, .int x_graphSeed, .int x_bits, .int x_bucketMany, .int x_width, .ref a2, .ref a3, .ref a4, .ref a5, .ref a6, .ref a7, .ref a8, .ref a9, .ref a10, .ref a11, .ref a12, .int x_thrown])), (a1, .inl (cI, 120, .inl f_keys))] := by
  refine kk_ofI (cc := cX8_below) (maxL := 3) (by decide) rfl (Nat.le_of_ble_eq_true rfl) ?_
  intro p e s m below meth c A Q ls H locs hx hb hml hown hts hE hw hl hret
  have F : kk_at p m c cX8_below 3 s _ wsX8_below RX8 G cI cJ ad A := ⟨⟨hx, hb, hml, hown, hts⟩, hE⟩
  have hl : lv_has ls 3 [(0, .ref a0), (1, .int i1)] := hl
  unfold F_X8_below at hF0
  have hJ1 : ∀ (i2_1 : Int32), J_X8_below_26 N i2_1 = some x → ∀ (H : Heap) (locs : List Loc) (ls : Array Slot), kk_wd G A s.heap [(a0, .inr (8, [.ref a1, .int x_many, .int x_built, .int x_seed, .int x_graphSeed, .int x_bits, .int x_bucketMany, .int x_width, .ref a2, .ref a3, .ref a4, .ref a5, .ref a6, .ref a7, .ref a8, .ref a9, .ref a10, .ref a11, .ref a12, .int x_thrown])), (a1, .inl (cI, 120, .inl f_keys))] H locs → lv_has ls 3 [(2, .int i2_1)] → W p l e (kk_rm 0 0 0 0) s m ([.ref a0, .int i1] : List Value).toArray below meth c H locs 0 0 Q (F0 m 26 ls []) := by
    intro i2_1 hF0 H locs ls hw hl
    unfold J_X8_below_26 at hF0
    refine lv_iload_n hx hb dX8_below_26 rfl (lv_at hl 0 rfl) ?_
    have hy := Option.some.inj hF0
    subst hy
    exact hret dX8_below_27 (by decide) (by decide) hw
  refine lv_iconst (v := 0) hx hb dX8_below_0 (by decide) ?_
  refine lv_istore_n (lv' := [(2, .int 0), (0, .ref a0), (1, .int i1)]) hx hb dX8_below_1 rfl hl (by decide) rfl (fun ls hl => ?_)
  obtain ⟨z2, hz3, hF0⟩ := kk_bind hF0
  have hL3 : ∀ (n3 : Nat) (i2_3 : Int32), kk_iter (fun (σ : Int32) => L_X8_below_2 N x_many f_keys i1 σ) n3 i2_3 = some z2 → ∀ (H : Heap) (locs : List Loc) (ls : Array Slot), kk_wd G A s.heap [(a0, .inr (8, [.ref a1, .int x_many, .int x_built, .int x_seed, .int x_graphSeed, .int x_bits, .int x_bucketMany, .int x_width, .ref a2, .ref a3, .ref a4, .ref a5, .ref a6, .ref a7, .ref a8, .ref a9, .ref a10, .ref a11, .ref a12, .int x_thrown])), (a1, .inl (cI, 120, .inl f_keys))] H locs → lv_has ls 3 [(0, .ref a0), (1, .int i1), (2, .int i2_3)] → W p l e (kk_rm 0 0 0 0) s m ([.ref a0, .int i1] : List Value).toArray below meth c H locs 0 0 Q (F0 m 2 ls []) := by
    intro n3
    induction n3 with
    | zero => intro i2_3 h; exact kk_iter0 h
    | succ n3 ih3 =>
      intro i2_3 hq H locs ls hw hl
      obtain ⟨y3, hF1, hI1⟩ := kk_iterS hq
      have hF1 : L_X8_below_2 N x_many f_keys i1 i2_3 = some y3 := hF1
      unfold L_X8_below_2 at hF1
      refine lv_iload_n hx hb dX8_below_2 rfl (lv_at hl 2 rfl) ?_
      refine lv_aload_n hx hb dX8_below_3 rfl (lv_at hl 0 rfl) ?_
      refine kk_get (T := TX8) F hw ui_X8_below_X8 0 rfl rfl 1 (by decide) m_X8_below_Cond_fieldLink_RX8_99_PerfectPewModel_many_I_ rfl dX8_below_4 ?_
      refine lv_icmp_ge (tgt := 26) hx hb dX8_below_7 (by decide) (fun c4 => ?_) (fun c4 => ?_)
      · have hF1 := (if_pos c4).symm.trans hF1
        have hy := Option.some.inj hF1
        subst hy
        have hz := Option.some.inj hI1
        subst hz
        exact hJ1 i2_3 hF0 _ _ _ hw (lv_sub hl [2] rfl)
      · have hF1 := (if_neg c4).symm.trans hF1
        refine lv_aload_n hx hb dX8_below_10 rfl (lv_at hl 0 rfl) ?_
        refine kk_get (T := TX8) F hw ui_X8_below_X8 0 rfl rfl 0 (by decide) m_X8_below_Cond_fieldLink_RX8_7_PerfectPewModel_keys_I_ rfl dX8_below_11 ?_
        refine lv_iload_n hx hb dX8_below_14 rfl (lv_at hl 2 rfl) ?_
        obtain ⟨v5, ev5, hF1⟩ := kk_bind hF1
        refine kk_iald F hw 1 rfl ev5 dX8_below_15 ?_
        refine lv_iload_n hx hb dX8_below_16 rfl (lv_at hl 1 rfl) ?_
        refine lv_icmp_ge (tgt := 26) hx hb dX8_below_17 (by decide) (fun c6 => ?_) (fun c6 => ?_)
        · have hF1 := (if_pos c6).symm.trans hF1
          have hy := Option.some.inj hF1
          subst hy
          have hz := Option.some.inj hI1
          subst hz
          exact hJ1 i2_3 hF0 _ _ _ hw (lv_sub hl [2] rfl)
        · have hF1 := (if_neg c6).symm.trans hF1
          refine lv_iinc (v := (i2_3 + 1)) (lv' := [(2, .int (i2_3 + 1)), (0, .ref a0), (1, .int i1)]) hx hb dX8_below_20 hl (k := 2) rfl rfl (by decide) rfl (fun ls hl => ?_)
          refine lv_goto (tgt := 2) hx hb dX8_below_23 (by decide) ?_
          have hy := Option.some.inj hF1
          subst hy
          exact ih3 (i2_3 + 1) hI1 _ _ _ hw (lv_sub hl [1, 2, 0] rfl)
  exact hL3 N 0 hz3 _ _ _ hw (lv_sub hl [1, 2, 0] rfl)
theorem ui_X8_is_X8 : ∀ w ∈ u_ws RX8 TX8 20, w ∈ wsX8_is := by decide +kernel
theorem m_X8_is_Cond_fieldLink_RX8_99_PerfectPewModel_many_I_ : Cond.fieldLink RX8 99 "PerfectPewModel" "many" "I" ∈ wsX8_is := by decide +kernel
theorem m_X8_is_Cond_fieldLink_RX8_7_PerfectPewModel_keys_I_ : Cond.fieldLink RX8 7 "PerfectPewModel" "keys" "[I" ∈ wsX8_is := by decide +kernel
set_option maxRecDepth 100000 in
set_option maxHeartbeats 4000000 in
theorem c_X8_is (l : Launch) (G : va_G) (cI cJ : ClassId) (ad : Nat → Nat) (a0 a1 a2 a3 a4 a5 a6 a7 a8 a9 a10 a11 a12 : Nat) (x_many : Int32) (x_built : Int32) (x_seed : Int32) (x_graphSeed : Int32) (x_bits : Int32) (x_bucketMany : Int32) (x_width : Int32) (x_thrown : Int32) (f_keys : Nat → Int32) (i1 : Int32) (N : Nat) (x : Int32) (hF0 : F_X8_is N x_many f_keys i1 = some x) : kk_I l yX8_is wsX8_is 1 0 0 22 [.ref a0, .int i1] G cI cJ ad [(a0, .inr (8, [.ref a1, .int x_many, .int x_built, .int x_seed, .int x_graphSeed, .int x_bits, .int x_bucketMany, .int x_width, .ref a2, .ref a3, .ref a4, .ref a5, .ref a6, .ref a7, .ref a8, .ref a9, .ref a10, .ref a11, .ref a12, .int x_thrown])), (a1, .inl (cI, 120, .inl f_keys))] x [(a0, .inr (8, [.ref a1, .int x_many, .int x_built, .int x_seed, .int x_graphSeed, .int x_bits, .int x_bucketMany, .int x_width, .ref a2, .ref a3, .ref a4, .ref a5, .ref a6, .ref a7, .ref a8, .ref a9, .ref a10, .ref a11, .ref a12, .int x_thrown])), (a1, .inl (cI, 120, .inl f_keys))] := by
  refine kk_ofZ (cc := cX8_is) (maxL := 3) (by decide) rfl (Nat.le_of_ble_eq_true rfl) ?_
  intro p e s m below meth c A Q ls H locs hx hb hml hown hts hE hw hl hret
  have F : kk_at p m c cX8_is 3 s _ wsX8_is RX8 G cI cJ ad A := ⟨⟨hx, hb, hml, hown, hts⟩, hE⟩
  have hl : lv_has ls 3 [(0, .ref a0), (1, .int i1)] := hl
  unfold F_X8_is at hF0
  have hJ1 : ∀ (s0_1 : Int32), J_X8_is_29 N s0_1 = some x → ∀ (H : Heap) (locs : List Loc) (ls : Array Slot), kk_wd G A s.heap [(a0, .inr (8, [.ref a1, .int x_many, .int x_built, .int x_seed, .int x_graphSeed, .int x_bits, .int x_bucketMany, .int x_width, .ref a2, .ref a3, .ref a4, .ref a5, .ref a6, .ref a7, .ref a8, .ref a9, .ref a10, .ref a11, .ref a12, .int x_thrown])), (a1, .inl (cI, 120, .inl f_keys))] H locs → lv_has ls 3 [] → W p l e (kk_rm 1 0 0 22) s m ([.ref a0, .int i1] : List Value).toArray below meth c H locs 0 0 Q (F0 m 29 ls [.int s0_1]) := by
    intro s0_1 hF0 H locs ls hw hl
    unfold J_X8_is_29 at hF0
    obtain ⟨u2, eu2, hF0⟩ := kk_bind hF0
    have hy := Option.some.inj hF0
    subst hy
    exact hret dX8_is_29 (by decide) (by decide) (kk_bl_ok eu2) hw
  have hJ3 : ∀ (_ : Unit), J_X8_is_28 N = some x → ∀ (H : Heap) (locs : List Loc) (ls : Array Slot), kk_wd G A s.heap [(a0, .inr (8, [.ref a1, .int x_many, .int x_built, .int x_seed, .int x_graphSeed, .int x_bits, .int x_bucketMany, .int x_width, .ref a2, .ref a3, .ref a4, .ref a5, .ref a6, .ref a7, .ref a8, .ref a9, .ref a10, .ref a11, .ref a12, .int x_thrown])), (a1, .inl (cI, 120, .inl f_keys))] H locs → lv_has ls 3 [] → W p l e (kk_rm 1 0 0 22) s m ([.ref a0, .int i1] : List Value).toArray below meth c H locs 0 0 Q (F0 m 28 ls []) := by
    intro _ hF0 H locs ls hw hl
    unfold J_X8_is_28 at hF0
    refine lv_iconst (v := 0) hx hb dX8_is_28 (by decide) ?_
    exact hJ1 0 hF0 _ _ _ hw (lv_sub hl [] rfl)
  refine lv_aload_n hx hb dX8_is_0 rfl (lv_at hl 0 rfl) ?_
  refine lv_iload_n hx hb dX8_is_1 rfl (lv_at hl 1 rfl) ?_
  obtain ⟨v4, ev4, hF0⟩ := kk_bind hF0
  refine kk_callI 0 0 hw (kk_runV (As := [.int i1]) (rest := []) F hw hl.1 (c_X8_below l G cI cJ ad a0 a1 a2 a3 a4 a5 a6 a7 a8 a9 a10 a11 a12 x_many x_built x_seed x_graphSeed x_bits x_bucketMany x_width x_thrown f_keys i1 N v4 ev4 H.size) gX8_is_X8_below rfl ⟨rfl, md_X8_below⟩ ⟨Nat.le_of_ble_eq_true rfl, Nat.le_of_ble_eq_true rfl⟩ ⟨Nat.le_of_ble_eq_true rfl, Nat.le_of_ble_eq_true rfl⟩ 0 8 rfl rfl rfl rfl (Nat.le_of_ble_eq_true rfl) dX8_is_2) ⟨rfl, rfl⟩ [0, 1] (by decide) rfl rfl (fun H locs hw => ?_)
  have hw : kk_wd G A s.heap [(a0, .inr (8, [.ref a1, .int x_many, .int x_built, .int x_seed, .int x_graphSeed, .int x_bits, .int x_bucketMany, .int x_width, .ref a2, .ref a3, .ref a4, .ref a5, .ref a6, .ref a7, .ref a8, .ref a9, .ref a10, .ref a11, .ref a12, .int x_thrown])), (a1, .inl (cI, 120, .inl f_keys))] H locs := hw
  refine lv_istore_n (lv' := [(2, .int v4), (0, .ref a0), (1, .int i1)]) hx hb dX8_is_5 rfl hl (by decide) rfl (fun ls hl => ?_)
  refine lv_iload_n hx hb dX8_is_6 rfl (lv_at hl 0 rfl) ?_
  refine lv_aload_n hx hb dX8_is_7 rfl (lv_at hl 1 rfl) ?_
  refine kk_get (T := TX8) F hw ui_X8_is_X8 0 rfl rfl 1 (by decide) m_X8_is_Cond_fieldLink_RX8_99_PerfectPewModel_many_I_ rfl dX8_is_8 ?_
  refine lv_icmp_ge (tgt := 28) hx hb dX8_is_11 (by decide) (fun c5 => ?_) (fun c5 => ?_)
  · have hF0 := (if_pos c5).symm.trans hF0
    exact hJ3 ()  hF0 _ _ _ hw (lv_sub hl [] rfl)
  · have hF0 := (if_neg c5).symm.trans hF0
    refine lv_aload_n hx hb dX8_is_14 rfl (lv_at hl 1 rfl) ?_
    refine kk_get (T := TX8) F hw ui_X8_is_X8 0 rfl rfl 0 (by decide) m_X8_is_Cond_fieldLink_RX8_7_PerfectPewModel_keys_I_ rfl dX8_is_15 ?_
    refine lv_iload_n hx hb dX8_is_18 rfl (lv_at hl 0 rfl) ?_
    obtain ⟨v6, ev6, hF0⟩ := kk_bind hF0
    refine kk_iald F hw 1 rfl ev6 dX8_is_19 ?_
    refine lv_iload_n hx hb dX8_is_20 rfl (lv_at hl 2 rfl) ?_
    refine lv_icmp_ne (tgt := 28) hx hb dX8_is_21 (by decide) (fun c7 => ?_) (fun c7 => ?_)
    · have hF0 := (if_neg c7).symm.trans hF0
      exact hJ3 ()  hF0 _ _ _ hw (lv_sub hl [] rfl)
    · have hF0 := (if_pos c7).symm.trans hF0
      refine lv_iconst (v := 1) hx hb dX8_is_24 (by decide) ?_
      refine lv_goto (tgt := 29) hx hb dX8_is_25 (by decide) ?_
      exact hJ1 1 hF0 _ _ _ hw (lv_sub hl [] rfl)
theorem ui_X8_put_X8 : ∀ w ∈ u_ws RX8 TX8 20, w ∈ wsX8_put := by decide +kernel
theorem m_X8_put_Cond_fieldLink_RX8_7_PerfectPewModel_keys_I_ : Cond.fieldLink RX8 7 "PerfectPewModel" "keys" "[I" ∈ wsX8_put := by decide +kernel
theorem m_X8_put_Cond_fieldLink_RX8_99_PerfectPewModel_many_I_ : Cond.fieldLink RX8 99 "PerfectPewModel" "many" "I" ∈ wsX8_put := by decide +kernel
set_option maxRecDepth 100000 in
set_option maxHeartbeats 4000000 in
theorem c_X8_put (l : Launch) (G : va_G) (cI cJ : ClassId) (ad : Nat → Nat) (a0 a1 a2 a3 a4 a5 a6 a7 a8 a9 a10 a11 a12 : Nat) (x_many : Int32) (x_built : Int32) (x_seed : Int32) (x_graphSeed : Int32) (x_bits : Int32) (x_bucketMany : Int32) (x_width : Int32) (x_thrown : Int32) (f_keys : Nat → Int32) (i1 : Int32) (N : Nat) (x : (Int32 × (Nat → Int32))) (hF0 : F_X8_put N x_many f_keys i1 = some x) : kk_V l yX8_put wsX8_put 1 0 0 22 [.ref a0, .int i1] G cI cJ ad [(a0, .inr (8, [.ref a1, .int x_many, .int x_built, .int x_seed, .int x_graphSeed, .int x_bits, .int x_bucketMany, .int x_width, .ref a2, .ref a3, .ref a4, .ref a5, .ref a6, .ref a7, .ref a8, .ref a9, .ref a10, .ref a11, .ref a12, .int x_thrown])), (a1, .inl (cI, 120, .inl f_keys))] [(a0, .inr (8, [.ref a1, .int x.1, .int x_built, .int x_seed, .int x_graphSeed, .int x_bits, .int x_bucketMany, .int x_width, .ref a2, .ref a3, .ref a4, .ref a5, .ref a6, .ref a7, .ref a8, .ref a9, .ref a10, .ref a11, .ref a12, .int x_thrown])), (a1, .inl (cI, 120, .inl x.2))] := by
  refine kk_ofV (cc := cX8_put) (maxL := 4) (by decide) rfl (Nat.le_of_ble_eq_true rfl) ?_
  intro p e s m below meth c A Q ls H locs hx hb hml hown hts hE hw hl hret
  have F : kk_at p m c cX8_put 4 s _ wsX8_put RX8 G cI cJ ad A := ⟨⟨hx, hb, hml, hown, hts⟩, hE⟩
  have hl : lv_has ls 4 [(0, .ref a0), (1, .int i1)] := hl
  unfold F_X8_put at hF0
  have hJ1 : ∀ (x_many_1 : Int32) (f_keys_1 : Nat → Int32) (i2_1 : Int32), J_X8_put_36 N x_many_1 f_keys_1 i1 i2_1 = some x → ∀ (H : Heap) (locs : List Loc) (ls : Array Slot), kk_wd G A s.heap [(a0, .inr (8, [.ref a1, .int x_many_1, .int x_built, .int x_seed, .int x_graphSeed, .int x_bits, .int x_bucketMany, .int x_width, .ref a2, .ref a3, .ref a4, .ref a5, .ref a6, .ref a7, .ref a8, .ref a9, .ref a10, .ref a11, .ref a12, .int x_thrown])), (a1, .inl (cI, 120, .inl f_keys_1))] H locs → lv_has ls 4 [(0, .ref a0), (1, .int i1), (2, .int i2_1)] → W p l e (kk_rm 1 0 0 22) s m ([.ref a0, .int i1] : List Value).toArray below meth c H locs 0 0 Q (F0 m 36 ls []) := by
    intro x_many_1 f_keys_1 i2_1 hF0 H locs ls hw hl
    unfold J_X8_put_36 at hF0
    refine lv_aload_n hx hb dX8_put_36 rfl (lv_at hl 0 rfl) ?_
    refine kk_get (T := TX8) F hw ui_X8_put_X8 0 rfl rfl 0 (by decide) m_X8_put_Cond_fieldLink_RX8_7_PerfectPewModel_keys_I_ rfl dX8_put_37 ?_
    refine lv_iload_n hx hb dX8_put_40 rfl (lv_at hl 2 rfl) ?_
    refine lv_iload_n hx hb dX8_put_41 rfl (lv_at hl 1 rfl) ?_
    obtain ⟨w2, ew2, hF0⟩ := kk_bind hF0
    refine kk_iast F hw 1 rfl ew2 dX8_put_42 (fun H locs hw => ?_)
    have hw : kk_wd G A s.heap [(a0, .inr (8, [.ref a1, .int x_many_1, .int x_built, .int x_seed, .int x_graphSeed, .int x_bits, .int x_bucketMany, .int x_width, .ref a2, .ref a3, .ref a4, .ref a5, .ref a6, .ref a7, .ref a8, .ref a9, .ref a10, .ref a11, .ref a12, .int x_thrown])), (a1, .inl (cI, 120, .inl w2))] H locs := hw
    refine lv_aload_n hx hb dX8_put_43 rfl (lv_at hl 0 rfl) ?_
    refine lv_dup hx hb dX8_put_44 rfl ?_
    refine kk_get (T := TX8) F hw ui_X8_put_X8 0 rfl rfl 1 (by decide) m_X8_put_Cond_fieldLink_RX8_99_PerfectPewModel_many_I_ rfl dX8_put_45 ?_
    refine lv_iconst (v := 1) hx hb dX8_put_48 (by decide) ?_
    refine lv_iadd hx hb dX8_put_49 ?_
    refine kk_put F hw ui_X8_put_X8 tyX8 tyX8_ok nmX8 0 rfl rfl 1 (by decide) m_X8_put_Cond_fieldLink_RX8_99_PerfectPewModel_many_I_ rfl rfl rfl (Nat.le_of_ble_eq_true rfl) dX8_put_50 (fun H locs hw => ?_)
    have hw : kk_wd G A s.heap [(a0, .inr (8, [.ref a1, .int (x_many_1 + 1), .int x_built, .int x_seed, .int x_graphSeed, .int x_bits, .int x_bucketMany, .int x_width, .ref a2, .ref a3, .ref a4, .ref a5, .ref a6, .ref a7, .ref a8, .ref a9, .ref a10, .ref a11, .ref a12, .int x_thrown])), (a1, .inl (cI, 120, .inl w2))] H locs := hw
    have hy := Option.some.inj hF0
    subst hy
    exact hret dX8_put_53 (by decide) (by decide) hw
  refine lv_aload_n hx hb dX8_put_0 rfl (lv_at hl 0 rfl) ?_
  refine lv_iload_n hx hb dX8_put_1 rfl (lv_at hl 1 rfl) ?_
  obtain ⟨v3, ev3, hF0⟩ := kk_bind hF0
  refine kk_callI 0 0 hw (kk_runV (As := [.int i1]) (rest := []) F hw hl.1 (c_X8_below l G cI cJ ad a0 a1 a2 a3 a4 a5 a6 a7 a8 a9 a10 a11 a12 x_many x_built x_seed x_graphSeed x_bits x_bucketMany x_width x_thrown f_keys i1 N v3 ev3 H.size) gX8_put_X8_below rfl ⟨rfl, md_X8_below⟩ ⟨Nat.le_of_ble_eq_true rfl, Nat.le_of_ble_eq_true rfl⟩ ⟨Nat.le_of_ble_eq_true rfl, Nat.le_of_ble_eq_true rfl⟩ 0 8 rfl rfl rfl rfl (Nat.le_of_ble_eq_true rfl) dX8_put_2) ⟨rfl, rfl⟩ [0, 1] (by decide) rfl rfl (fun H locs hw => ?_)
  have hw : kk_wd G A s.heap [(a0, .inr (8, [.ref a1, .int x_many, .int x_built, .int x_seed, .int x_graphSeed, .int x_bits, .int x_bucketMany, .int x_width, .ref a2, .ref a3, .ref a4, .ref a5, .ref a6, .ref a7, .ref a8, .ref a9, .ref a10, .ref a11, .ref a12, .int x_thrown])), (a1, .inl (cI, 120, .inl f_keys))] H locs := hw
  refine lv_istore_n (lv' := [(2, .int v3), (0, .ref a0), (1, .int i1)]) hx hb dX8_put_5 rfl hl (by decide) rfl (fun ls hl => ?_)
  refine lv_aload_n hx hb dX8_put_6 rfl (lv_at hl 1 rfl) ?_
  refine kk_get (T := TX8) F hw ui_X8_put_X8 0 rfl rfl 1 (by decide) m_X8_put_Cond_fieldLink_RX8_99_PerfectPewModel_many_I_ rfl dX8_put_7 ?_
  refine lv_istore_n (lv' := [(3, .int x_many), (2, .int v3), (0, .ref a0), (1, .int i1)]) hx hb dX8_put_10 rfl hl (by decide) rfl (fun ls hl => ?_)
  obtain ⟨z4, hz5, hF0⟩ := kk_bind hF0
  have hL5 : ∀ (n5 : Nat) (f_keys_5 : Nat → Int32) (i3_5 : Int32), kk_iter (fun (σ : ((Nat → Int32) × Int32)) => L_X8_put_11 N v3 σ.1 σ.2) n5 (f_keys_5, i3_5) = some z4 → ∀ (H : Heap) (locs : List Loc) (ls : Array Slot), kk_wd G A s.heap [(a0, .inr (8, [.ref a1, .int x_many, .int x_built, .int x_seed, .int x_graphSeed, .int x_bits, .int x_bucketMany, .int x_width, .ref a2, .ref a3, .ref a4, .ref a5, .ref a6, .ref a7, .ref a8, .ref a9, .ref a10, .ref a11, .ref a12, .int x_thrown])), (a1, .inl (cI, 120, .inl f_keys_5))] H locs → lv_has ls 4 [(0, .ref a0), (1, .int i1), (2, .int v3), (3, .int i3_5)] → W p l e (kk_rm 1 0 0 22) s m ([.ref a0, .int i1] : List Value).toArray below meth c H locs 0 0 Q (F0 m 11 ls []) := by
    intro n5
    induction n5 with
    | zero => intro f_keys_5 i3_5 h; exact kk_iter0 h
    | succ n5 ih5 =>
      intro f_keys_5 i3_5 hq H locs ls hw hl
      obtain ⟨y5, hF1, hI1⟩ := kk_iterS hq
      have hF1 : L_X8_put_11 N v3 f_keys_5 i3_5 = some y5 := hF1
      unfold L_X8_put_11 at hF1
      refine lv_iload_n hx hb dX8_put_11 rfl (lv_at hl 3 rfl) ?_
      refine lv_iload_n hx hb dX8_put_12 rfl (lv_at hl 2 rfl) ?_
      refine lv_icmp_le (tgt := 36) hx hb dX8_put_13 (by decide) (fun c6 => ?_) (fun c6 => ?_)
      · have hF1 := (if_pos c6).symm.trans hF1
        have hy := Option.some.inj hF1
        subst hy
        have hz := Option.some.inj hI1
        subst hz
        exact hJ1 x_many f_keys_5 v3 hF0 _ _ _ hw (lv_sub hl [0, 1, 2] rfl)
      · have hF1 := (if_neg c6).symm.trans hF1
        refine lv_aload_n hx hb dX8_put_16 rfl (lv_at hl 0 rfl) ?_
        refine kk_get (T := TX8) F hw ui_X8_put_X8 0 rfl rfl 0 (by decide) m_X8_put_Cond_fieldLink_RX8_7_PerfectPewModel_keys_I_ rfl dX8_put_17 ?_
        refine lv_iload_n hx hb dX8_put_20 rfl (lv_at hl 3 rfl) ?_
        refine lv_aload_n hx hb dX8_put_21 rfl (lv_at hl 0 rfl) ?_
        refine kk_get (T := TX8) F hw ui_X8_put_X8 0 rfl rfl 0 (by decide) m_X8_put_Cond_fieldLink_RX8_7_PerfectPewModel_keys_I_ rfl dX8_put_22 ?_
        refine lv_iload_n hx hb dX8_put_25 rfl (lv_at hl 3 rfl) ?_
        refine lv_iconst (v := 1) hx hb dX8_put_26 (by decide) ?_
        refine lv_isub hx hb dX8_put_27 ?_
        obtain ⟨v7, ev7, hF1⟩ := kk_bind hF1
        refine kk_iald F hw 1 rfl ev7 dX8_put_28 ?_
        obtain ⟨w8, ew8, hF1⟩ := kk_bind hF1
        refine kk_iast F hw 1 rfl ew8 dX8_put_29 (fun H locs hw => ?_)
        have hw : kk_wd G A s.heap [(a0, .inr (8, [.ref a1, .int x_many, .int x_built, .int x_seed, .int x_graphSeed, .int x_bits, .int x_bucketMany, .int x_width, .ref a2, .ref a3, .ref a4, .ref a5, .ref a6, .ref a7, .ref a8, .ref a9, .ref a10, .ref a11, .ref a12, .int x_thrown])), (a1, .inl (cI, 120, .inl w8))] H locs := hw
        refine lv_iinc (v := (i3_5 + (-1))) (lv' := [(3, .int (i3_5 + (-1))), (0, .ref a0), (1, .int i1), (2, .int v3)]) hx hb dX8_put_30 hl (k := 3) rfl rfl (by decide) rfl (fun ls hl => ?_)
        refine lv_goto (tgt := 11) hx hb dX8_put_33 (by decide) ?_
        have hy := Option.some.inj hF1
        subst hy
        exact ih5 w8 (i3_5 + (-1)) hI1 _ _ _ hw (lv_sub hl [1, 2, 3, 0] rfl)
  exact hL5 N f_keys x_many hz5 _ _ _ hw (lv_sub hl [2, 3, 1, 0] rfl)
theorem ui_X8_add_X8 : ∀ w ∈ u_ws RX8 TX8 20, w ∈ wsX8_add := by decide +kernel
theorem m_X8_add_Cond_fieldLink_RX8_47_PerfectPewModel_thrown_I_ : Cond.fieldLink RX8 47 "PerfectPewModel" "thrown" "I" ∈ wsX8_add := by decide +kernel
theorem m_X8_add_Cond_constant_RX8_106_99999_ : Cond.constant RX8 106 (99999) ∈ wsX8_add := by decide +kernel
theorem m_X8_add_Cond_fieldLink_RX8_114_PerfectPewModel_built_Z_ : Cond.fieldLink RX8 114 "PerfectPewModel" "built" "Z" ∈ wsX8_add := by decide +kernel
theorem m_X8_add_Cond_fieldLink_RX8_99_PerfectPewModel_many_I_ : Cond.fieldLink RX8 99 "PerfectPewModel" "many" "I" ∈ wsX8_add := by decide +kernel
set_option maxRecDepth 100000 in
set_option maxHeartbeats 4000000 in
theorem c_X8_add (l : Launch) (G : va_G) (cI cJ : ClassId) (ad : Nat → Nat) (a0 a1 a2 a3 a4 a5 a6 a7 a8 a9 a10 a11 a12 : Nat) (x_many : Int32) (x_built : Int32) (x_seed : Int32) (x_graphSeed : Int32) (x_bits : Int32) (x_bucketMany : Int32) (x_width : Int32) (x_thrown : Int32) (f_keys : Nat → Int32) (i1 : Int32) (N : Nat) (x : (Int32 × Int32 × Int32 × (Nat → Int32))) (hF0 : F_X8_add N x_many x_built x_thrown f_keys i1 = some x) : kk_I l yX8_add wsX8_add 2 0 0 45 [.ref a0, .int i1] G cI cJ ad [(a0, .inr (8, [.ref a1, .int x_many, .int x_built, .int x_seed, .int x_graphSeed, .int x_bits, .int x_bucketMany, .int x_width, .ref a2, .ref a3, .ref a4, .ref a5, .ref a6, .ref a7, .ref a8, .ref a9, .ref a10, .ref a11, .ref a12, .int x_thrown])), (a1, .inl (cI, 120, .inl f_keys))] x.1 [(a0, .inr (8, [.ref a1, .int x.2.1, .int x_built, .int x_seed, .int x_graphSeed, .int x_bits, .int x_bucketMany, .int x_width, .ref a2, .ref a3, .ref a4, .ref a5, .ref a6, .ref a7, .ref a8, .ref a9, .ref a10, .ref a11, .ref a12, .int x.2.2.1])), (a1, .inl (cI, 120, .inl x.2.2.2))] := by
  refine kk_ofI (cc := cX8_add) (maxL := 2) (by decide) rfl (Nat.le_of_ble_eq_true rfl) ?_
  intro p e s m below meth c A Q ls H locs hx hb hml hown hts hE hw hl hret
  have F : kk_at p m c cX8_add 2 s _ wsX8_add RX8 G cI cJ ad A := ⟨⟨hx, hb, hml, hown, hts⟩, hE⟩
  have hl : lv_has ls 2 [(0, .ref a0), (1, .int i1)] := hl
  unfold F_X8_add at hF0
  have hJ1 : ∀ (x_many_1 : Int32) (x_thrown_1 : Int32) (f_keys_1 : Nat → Int32), J_X8_add_45 N x_many_1 x_thrown_1 f_keys_1 = some x → ∀ (H : Heap) (locs : List Loc) (ls : Array Slot), kk_wd G A s.heap [(a0, .inr (8, [.ref a1, .int x_many_1, .int x_built, .int x_seed, .int x_graphSeed, .int x_bits, .int x_bucketMany, .int x_width, .ref a2, .ref a3, .ref a4, .ref a5, .ref a6, .ref a7, .ref a8, .ref a9, .ref a10, .ref a11, .ref a12, .int x_thrown_1])), (a1, .inl (cI, 120, .inl f_keys_1))] H locs → lv_has ls 2 [(0, .ref a0)] → W p l e (kk_rm 2 0 0 45) s m ([.ref a0, .int i1] : List Value).toArray below meth c H locs 0 0 Q (F0 m 45 ls []) := by
    intro x_many_1 x_thrown_1 f_keys_1 hF0 H locs ls hw hl
    unfold J_X8_add_45 at hF0
    refine lv_aload_n hx hb dX8_add_45 rfl (lv_at hl 0 rfl) ?_
    refine lv_iconst (v := 2) hx hb dX8_add_46 (by decide) ?_
    obtain ⟨v2, ev2, hF0⟩ := kk_bind hF0
    refine kk_callI 0 0 hw (kk_runV (As := [.int 2]) (rest := []) F hw hl.1 (c_X8_fails l G cI cJ ad a0 a1 a2 a3 a4 a5 a6 a7 a8 a9 a10 a11 a12 x_many_1 x_built x_seed x_graphSeed x_bits x_bucketMany x_width x_thrown_1 2 N v2 ev2 H.size) gX8_add_X8_fails rfl ⟨rfl, md_X8_fails⟩ ⟨Nat.le_of_ble_eq_true rfl, Nat.le_of_ble_eq_true rfl⟩ ⟨Nat.le_of_ble_eq_true rfl, Nat.le_of_ble_eq_true rfl⟩ 0 8 rfl rfl rfl rfl (Nat.le_of_ble_eq_true rfl) dX8_add_47) ⟨rfl, rfl⟩ [0] (by decide) rfl rfl (fun H locs hw => ?_)
    have hw : kk_wd G A s.heap [(a0, .inr (8, [.ref a1, .int x_many_1, .int x_built, .int x_seed, .int x_graphSeed, .int x_bits, .int x_bucketMany, .int x_width, .ref a2, .ref a3, .ref a4, .ref a5, .ref a6, .ref a7, .ref a8, .ref a9, .ref a10, .ref a11, .ref a12, .int v2.2])), (a1, .inl (cI, 120, .inl f_keys_1))] H locs := hw
    have hy := Option.some.inj hF0
    subst hy
    exact hret dX8_add_50 (by decide) (by decide) hw
  refine lv_aload_n hx hb dX8_add_0 rfl (lv_at hl 0 rfl) ?_
  refine lv_iconst (v := 0) hx hb dX8_add_1 (by decide) ?_
  refine kk_put F hw ui_X8_add_X8 tyX8 tyX8_ok nmX8 0 rfl rfl 19 (by decide) m_X8_add_Cond_fieldLink_RX8_47_PerfectPewModel_thrown_I_ rfl rfl rfl (Nat.le_of_ble_eq_true rfl) dX8_add_2 (fun H locs hw => ?_)
  have hw : kk_wd G A s.heap [(a0, .inr (8, [.ref a1, .int x_many, .int x_built, .int x_seed, .int x_graphSeed, .int x_bits, .int x_bucketMany, .int x_width, .ref a2, .ref a3, .ref a4, .ref a5, .ref a6, .ref a7, .ref a8, .ref a9, .ref a10, .ref a11, .ref a12, .int 0])), (a1, .inl (cI, 120, .inl f_keys))] H locs := hw
  refine lv_iload_n hx hb dX8_add_5 rfl (lv_at hl 1 rfl) ?_
  refine lv_iconst (v := 0) hx hb dX8_add_6 (by decide) ?_
  refine lv_ldc hx hb hown (hts _ m_X8_add_Cond_constant_RX8_106_99999_) dX8_add_7 ?_
  obtain ⟨v3, ev3, hF0⟩ := kk_bind hF0
  refine kk_callI 0 0 hw (kk_runS (As := [.int i1, .int 0, .int 99999]) (rest := []) F hw hl.1 (c_X8_in l G cI cJ ad i1 0 99999 N v3 ev3 H.size) gX8_add_X8_in rfl md_X8_in ⟨Nat.le_of_ble_eq_true rfl, Nat.le_of_ble_eq_true rfl⟩ ⟨Nat.le_of_ble_eq_true rfl, Nat.le_of_ble_eq_true rfl⟩ rfl (Nat.le_of_ble_eq_true rfl) dX8_add_9) ⟨rfl, rfl⟩ [] (by decide) rfl rfl (fun H locs hw => ?_)
  refine lv_if_ne (tgt := 21) hx hb dX8_add_12 (by decide) (fun c4 => ?_) (fun c4 => ?_)
  · have hF0 := (if_neg c4).symm.trans hF0
    refine lv_aload_n hx hb dX8_add_21 rfl (lv_at hl 0 rfl) ?_
    refine kk_get (T := TX8) F hw ui_X8_add_X8 0 rfl rfl 2 (by decide) m_X8_add_Cond_fieldLink_RX8_114_PerfectPewModel_built_Z_ rfl dX8_add_22 ?_
    refine lv_if_ne (tgt := 45) hx hb dX8_add_25 (by decide) (fun c5 => ?_) (fun c5 => ?_)
    · have hF0 := (if_neg c5).symm.trans hF0
      exact hJ1 x_many 0 f_keys hF0 _ _ _ hw (lv_sub hl [0] rfl)
    · have hF0 := (if_pos c5).symm.trans hF0
      refine lv_aload_n hx hb dX8_add_28 rfl (lv_at hl 0 rfl) ?_
      refine kk_get (T := TX8) F hw ui_X8_add_X8 0 rfl rfl 1 (by decide) m_X8_add_Cond_fieldLink_RX8_99_PerfectPewModel_many_I_ rfl dX8_add_29 ?_
      refine lv_bipush (v := 120) hx hb dX8_add_32 (by decide) ?_
      refine lv_icmp_eq (tgt := 45) hx hb dX8_add_34 (by decide) (fun c6 => ?_) (fun c6 => ?_)
      · have hF0 := (if_pos c6).symm.trans hF0
        exact hJ1 x_many 0 f_keys hF0 _ _ _ hw (lv_sub hl [0] rfl)
      · have hF0 := (if_neg c6).symm.trans hF0
        refine lv_aload_n hx hb dX8_add_37 rfl (lv_at hl 0 rfl) ?_
        refine lv_iload_n hx hb dX8_add_38 rfl (lv_at hl 1 rfl) ?_
        obtain ⟨v7, ev7, hF0⟩ := kk_bind hF0
        refine kk_callI 0 0 hw (kk_runV (As := [.int i1]) (rest := []) F hw hl.1 (c_X8_is l G cI cJ ad a0 a1 a2 a3 a4 a5 a6 a7 a8 a9 a10 a11 a12 x_many x_built x_seed x_graphSeed x_bits x_bucketMany x_width 0 f_keys i1 N v7 ev7 H.size) gX8_add_X8_is rfl ⟨rfl, md_X8_is⟩ ⟨Nat.le_of_ble_eq_true rfl, Nat.le_of_ble_eq_true rfl⟩ ⟨Nat.le_of_ble_eq_true rfl, Nat.le_of_ble_eq_true rfl⟩ 0 8 rfl rfl rfl rfl (Nat.le_of_ble_eq_true rfl) dX8_add_39) ⟨rfl, rfl⟩ [0, 1] (by decide) rfl rfl (fun H locs hw => ?_)
        have hw : kk_wd G A s.heap [(a0, .inr (8, [.ref a1, .int x_many, .int x_built, .int x_seed, .int x_graphSeed, .int x_bits, .int x_bucketMany, .int x_width, .ref a2, .ref a3, .ref a4, .ref a5, .ref a6, .ref a7, .ref a8, .ref a9, .ref a10, .ref a11, .ref a12, .int 0])), (a1, .inl (cI, 120, .inl f_keys))] H locs := hw
        refine lv_if_eq (tgt := 51) hx hb dX8_add_42 (by decide) (fun c8 => ?_) (fun c8 => ?_)
        · have hF0 := (if_pos c8).symm.trans hF0
          refine lv_aload_n hx hb dX8_add_51 rfl (lv_at hl 0 rfl) ?_
          refine lv_iload_n hx hb dX8_add_52 rfl (lv_at hl 1 rfl) ?_
          obtain ⟨v9, ev9, hF0⟩ := kk_bind hF0
          refine kk_callV 0 0 hw (kk_runV (As := [.int i1]) (rest := []) F hw hl.1 (c_X8_put l G cI cJ ad a0 a1 a2 a3 a4 a5 a6 a7 a8 a9 a10 a11 a12 x_many x_built x_seed x_graphSeed x_bits x_bucketMany x_width 0 f_keys i1 N v9 ev9 H.size) gX8_add_X8_put rfl ⟨rfl, md_X8_put⟩ ⟨Nat.le_of_ble_eq_true rfl, Nat.le_of_ble_eq_true rfl⟩ ⟨Nat.le_of_ble_eq_true rfl, Nat.le_of_ble_eq_true rfl⟩ 0 8 rfl rfl rfl rfl (Nat.le_of_ble_eq_true rfl) dX8_add_53) ⟨rfl, rfl⟩ [0, 1] (by decide) rfl rfl (fun H locs hw => ?_)
          have hw : kk_wd G A s.heap [(a0, .inr (8, [.ref a1, .int v9.1, .int x_built, .int x_seed, .int x_graphSeed, .int x_bits, .int x_bucketMany, .int x_width, .ref a2, .ref a3, .ref a4, .ref a5, .ref a6, .ref a7, .ref a8, .ref a9, .ref a10, .ref a11, .ref a12, .int 0])), (a1, .inl (cI, 120, .inl v9.2))] H locs := hw
          refine lv_aload_n hx hb dX8_add_56 rfl (lv_at hl 0 rfl) ?_
          refine kk_get (T := TX8) F hw ui_X8_add_X8 0 rfl rfl 1 (by decide) m_X8_add_Cond_fieldLink_RX8_99_PerfectPewModel_many_I_ rfl dX8_add_57 ?_
          have hy := Option.some.inj hF0
          subst hy
          exact hret dX8_add_60 (by decide) (by decide) hw
        · have hF0 := (if_neg c8).symm.trans hF0
          exact hJ1 x_many 0 f_keys hF0 _ _ _ hw (lv_sub hl [0] rfl)
  · have hF0 := (if_pos c4).symm.trans hF0
    refine lv_aload_n hx hb dX8_add_15 rfl (lv_at hl 0 rfl) ?_
    refine lv_iconst (v := 1) hx hb dX8_add_16 (by decide) ?_
    obtain ⟨v10, ev10, hF0⟩ := kk_bind hF0
    refine kk_callI 0 0 hw (kk_runV (As := [.int 1]) (rest := []) F hw hl.1 (c_X8_fails l G cI cJ ad a0 a1 a2 a3 a4 a5 a6 a7 a8 a9 a10 a11 a12 x_many x_built x_seed x_graphSeed x_bits x_bucketMany x_width 0 1 N v10 ev10 H.size) gX8_add_X8_fails rfl ⟨rfl, md_X8_fails⟩ ⟨Nat.le_of_ble_eq_true rfl, Nat.le_of_ble_eq_true rfl⟩ ⟨Nat.le_of_ble_eq_true rfl, Nat.le_of_ble_eq_true rfl⟩ 0 8 rfl rfl rfl rfl (Nat.le_of_ble_eq_true rfl) dX8_add_17) ⟨rfl, rfl⟩ [0] (by decide) rfl rfl (fun H locs hw => ?_)
    have hw : kk_wd G A s.heap [(a0, .inr (8, [.ref a1, .int x_many, .int x_built, .int x_seed, .int x_graphSeed, .int x_bits, .int x_bucketMany, .int x_width, .ref a2, .ref a3, .ref a4, .ref a5, .ref a6, .ref a7, .ref a8, .ref a9, .ref a10, .ref a11, .ref a12, .int v10.2])), (a1, .inl (cI, 120, .inl f_keys))] H locs := hw
    have hy := Option.some.inj hF0
    subst hy
    exact hret dX8_add_20 (by decide) (by decide) hw
theorem ui_X8_addLine_X8 : ∀ w ∈ u_ws RX8 TX8 20, w ∈ wsX8_addLine := by decide +kernel
theorem m_X8_addLine_Cond_fieldLink_RX8_99_PerfectPewModel_many_I_ : Cond.fieldLink RX8 99 "PerfectPewModel" "many" "I" ∈ wsX8_addLine := by decide +kernel
theorem m_X8_addLine_Cond_fieldLink_RX8_114_PerfectPewModel_built_Z_ : Cond.fieldLink RX8 114 "PerfectPewModel" "built" "Z" ∈ wsX8_addLine := by decide +kernel
theorem m_X8_addLine_Cond_fieldLink_RX8_47_PerfectPewModel_thrown_I_ : Cond.fieldLink RX8 47 "PerfectPewModel" "thrown" "I" ∈ wsX8_addLine := by decide +kernel
theorem m_X8_addLine_Cond_constant_RX8_106_99999_ : Cond.constant RX8 106 (99999) ∈ wsX8_addLine := by decide +kernel
set_option maxRecDepth 100000 in
set_option maxHeartbeats 4000000 in
theorem c_X8_addLine (l : Launch) (G : va_G) (cI cJ : ClassId) (ad : Nat → Nat) (a0 a1 a2 a3 a4 a5 a6 a7 a8 a9 a10 a11 a12 : Nat) (x_many : Int32) (x_built : Int32) (x_seed : Int32) (x_graphSeed : Int32) (x_bits : Int32) (x_bucketMany : Int32) (x_width : Int32) (x_thrown : Int32) (f_keys : Nat → Int32) (i1 : Int32) (i2 : Int32) (i3 : Int32) (N : Nat) (x : (Int32 × Int32 × Int32 × (Nat → Int32))) (hF0 : F_X8_addLine N x_many x_built x_thrown f_keys i1 i2 i3 = some x) : kk_I l yX8_addLine wsX8_addLine 2 0 0 45 [.ref a0, .int i1, .int i2, .int i3] G cI cJ ad [(a0, .inr (8, [.ref a1, .int x_many, .int x_built, .int x_seed, .int x_graphSeed, .int x_bits, .int x_bucketMany, .int x_width, .ref a2, .ref a3, .ref a4, .ref a5, .ref a6, .ref a7, .ref a8, .ref a9, .ref a10, .ref a11, .ref a12, .int x_thrown])), (a1, .inl (cI, 120, .inl f_keys))] x.1 [(a0, .inr (8, [.ref a1, .int x.2.1, .int x_built, .int x_seed, .int x_graphSeed, .int x_bits, .int x_bucketMany, .int x_width, .ref a2, .ref a3, .ref a4, .ref a5, .ref a6, .ref a7, .ref a8, .ref a9, .ref a10, .ref a11, .ref a12, .int x.2.2.1])), (a1, .inl (cI, 120, .inl x.2.2.2))] := by
  refine kk_ofI (cc := cX8_addLine) (maxL := 6) (by decide) rfl (Nat.le_of_ble_eq_true rfl) ?_
  intro p e s m below meth c A Q ls H locs hx hb hml hown hts hE hw hl hret
  have F : kk_at p m c cX8_addLine 6 s _ wsX8_addLine RX8 G cI cJ ad A := ⟨⟨hx, hb, hml, hown, hts⟩, hE⟩
  have hl : lv_has ls 6 [(0, .ref a0), (1, .int i1), (2, .int i2), (3, .int i3)] := hl
  unfold F_X8_addLine at hF0
  have hJ1 : ∀ (x_many_1 : Int32) (x_thrown_1 : Int32) (f_keys_1 : Nat → Int32), J_X8_addLine_158 N x_many_1 x_thrown_1 f_keys_1 = some x → ∀ (H : Heap) (locs : List Loc) (ls : Array Slot), kk_wd G A s.heap [(a0, .inr (8, [.ref a1, .int x_many_1, .int x_built, .int x_seed, .int x_graphSeed, .int x_bits, .int x_bucketMany, .int x_width, .ref a2, .ref a3, .ref a4, .ref a5, .ref a6, .ref a7, .ref a8, .ref a9, .ref a10, .ref a11, .ref a12, .int x_thrown_1])), (a1, .inl (cI, 120, .inl f_keys_1))] H locs → lv_has ls 6 [(0, .ref a0)] → W p l e (kk_rm 2 0 0 45) s m ([.ref a0, .int i1, .int i2, .int i3] : List Value).toArray below meth c H locs 0 0 Q (F0 m 158 ls []) := by
    intro x_many_1 x_thrown_1 f_keys_1 hF0 H locs ls hw hl
    unfold J_X8_addLine_158 at hF0
    refine lv_aload_n hx hb dX8_addLine_158 rfl (lv_at hl 0 rfl) ?_
    refine kk_get (T := TX8) F hw ui_X8_addLine_X8 0 rfl rfl 1 (by decide) m_X8_addLine_Cond_fieldLink_RX8_99_PerfectPewModel_many_I_ rfl dX8_addLine_159 ?_
    have hy := Option.some.inj hF0
    subst hy
    exact hret dX8_addLine_162 (by decide) (by decide) hw
  have hJ2 : ∀ (x_many_2 : Int32) (x_thrown_2 : Int32) (f_keys_2 : Nat → Int32), J_X8_addLine_114 N x_many_2 x_thrown_2 f_keys_2 = some x → ∀ (H : Heap) (locs : List Loc) (ls : Array Slot), kk_wd G A s.heap [(a0, .inr (8, [.ref a1, .int x_many_2, .int x_built, .int x_seed, .int x_graphSeed, .int x_bits, .int x_bucketMany, .int x_width, .ref a2, .ref a3, .ref a4, .ref a5, .ref a6, .ref a7, .ref a8, .ref a9, .ref a10, .ref a11, .ref a12, .int x_thrown_2])), (a1, .inl (cI, 120, .inl f_keys_2))] H locs → lv_has ls 6 [(0, .ref a0)] → W p l e (kk_rm 2 0 0 45) s m ([.ref a0, .int i1, .int i2, .int i3] : List Value).toArray below meth c H locs 0 0 Q (F0 m 114 ls []) := by
    intro x_many_2 x_thrown_2 f_keys_2 hF0 H locs ls hw hl
    unfold J_X8_addLine_114 at hF0
    refine lv_aload_n hx hb dX8_addLine_114 rfl (lv_at hl 0 rfl) ?_
    refine lv_iconst (v := 2) hx hb dX8_addLine_115 (by decide) ?_
    obtain ⟨v3, ev3, hF0⟩ := kk_bind hF0
    refine kk_callI 0 0 hw (kk_runV (As := [.int 2]) (rest := []) F hw hl.1 (c_X8_fails l G cI cJ ad a0 a1 a2 a3 a4 a5 a6 a7 a8 a9 a10 a11 a12 x_many_2 x_built x_seed x_graphSeed x_bits x_bucketMany x_width x_thrown_2 2 N v3 ev3 H.size) gX8_addLine_X8_fails rfl ⟨rfl, md_X8_fails⟩ ⟨Nat.le_of_ble_eq_true rfl, Nat.le_of_ble_eq_true rfl⟩ ⟨Nat.le_of_ble_eq_true rfl, Nat.le_of_ble_eq_true rfl⟩ 0 8 rfl rfl rfl rfl (Nat.le_of_ble_eq_true rfl) dX8_addLine_116) ⟨rfl, rfl⟩ [0] (by decide) rfl rfl (fun H locs hw => ?_)
    have hw : kk_wd G A s.heap [(a0, .inr (8, [.ref a1, .int x_many_2, .int x_built, .int x_seed, .int x_graphSeed, .int x_bits, .int x_bucketMany, .int x_width, .ref a2, .ref a3, .ref a4, .ref a5, .ref a6, .ref a7, .ref a8, .ref a9, .ref a10, .ref a11, .ref a12, .int v3.2])), (a1, .inl (cI, 120, .inl f_keys_2))] H locs := hw
    have hy := Option.some.inj hF0
    subst hy
    exact hret dX8_addLine_119 (by decide) (by decide) hw
  have hJ4 : ∀ (x_many_4 : Int32) (x_thrown_4 : Int32) (f_keys_4 : Nat → Int32) (i4_4 : Int32), J_X8_addLine_95 N x_many_4 x_built x_thrown_4 f_keys_4 i1 i2 i3 i4_4 = some x → ∀ (H : Heap) (locs : List Loc) (ls : Array Slot), kk_wd G A s.heap [(a0, .inr (8, [.ref a1, .int x_many_4, .int x_built, .int x_seed, .int x_graphSeed, .int x_bits, .int x_bucketMany, .int x_width, .ref a2, .ref a3, .ref a4, .ref a5, .ref a6, .ref a7, .ref a8, .ref a9, .ref a10, .ref a11, .ref a12, .int x_thrown_4])), (a1, .inl (cI, 120, .inl f_keys_4))] H locs → lv_has ls 6 [(0, .ref a0), (1, .int i1), (2, .int i2), (3, .int i3), (4, .int i4_4)] → W p l e (kk_rm 2 0 0 45) s m ([.ref a0, .int i1, .int i2, .int i3] : List Value).toArray below meth c H locs 0 0 Q (F0 m 95 ls []) := by
    intro x_many_4 x_thrown_4 f_keys_4 i4_4 hF0 H locs ls hw hl
    unfold J_X8_addLine_95 at hF0
    refine lv_aload_n hx hb dX8_addLine_95 rfl (lv_at hl 0 rfl) ?_
    refine kk_get (T := TX8) F hw ui_X8_addLine_X8 0 rfl rfl 2 (by decide) m_X8_addLine_Cond_fieldLink_RX8_114_PerfectPewModel_built_Z_ rfl dX8_addLine_96 ?_
    refine lv_if_ne (tgt := 114) hx hb dX8_addLine_99 (by decide) (fun c5 => ?_) (fun c5 => ?_)
    · have hF0 := (if_neg c5).symm.trans hF0
      exact hJ2 x_many_4 x_thrown_4 f_keys_4 hF0 _ _ _ hw (lv_sub hl [0] rfl)
    · have hF0 := (if_pos c5).symm.trans hF0
      refine lv_aload_n hx hb dX8_addLine_102 rfl (lv_at hl 0 rfl) ?_
      refine kk_get (T := TX8) F hw ui_X8_addLine_X8 0 rfl rfl 1 (by decide) m_X8_addLine_Cond_fieldLink_RX8_99_PerfectPewModel_many_I_ rfl dX8_addLine_103 ?_
      refine lv_iload hx hb dX8_addLine_106 (lv_at hl 4 rfl) ?_
      refine lv_iadd hx hb dX8_addLine_108 ?_
      refine lv_bipush (v := 120) hx hb dX8_addLine_109 (by decide) ?_
      refine lv_icmp_le (tgt := 120) hx hb dX8_addLine_111 (by decide) (fun c6 => ?_) (fun c6 => ?_)
      · have hF0 := (if_pos c6).symm.trans hF0
        refine lv_iconst (v := 0) hx hb dX8_addLine_120 (by decide) ?_
        refine lv_istore (lv' := [(5, .int 0), (0, .ref a0), (1, .int i1), (2, .int i2), (3, .int i3), (4, .int i4_4)]) hx hb dX8_addLine_121 hl (by decide) rfl (fun ls hl => ?_)
        obtain ⟨z7, hz8, hF0⟩ := kk_bind hF0
        have hL8 : ∀ (n8 : Nat) (x_many_8 : Int32) (f_keys_8 : Nat → Int32) (i5_8 : Int32), kk_iter (fun (σ : (Int32 × (Nat → Int32) × Int32)) => L_X8_addLine_123 N i1 i2 i3 σ.1 σ.2.1 σ.2.2) n8 (x_many_8, f_keys_8, i5_8) = some z7 → ∀ (H : Heap) (locs : List Loc) (ls : Array Slot), kk_wd G A s.heap [(a0, .inr (8, [.ref a1, .int x_many_8, .int x_built, .int x_seed, .int x_graphSeed, .int x_bits, .int x_bucketMany, .int x_width, .ref a2, .ref a3, .ref a4, .ref a5, .ref a6, .ref a7, .ref a8, .ref a9, .ref a10, .ref a11, .ref a12, .int x_thrown_4])), (a1, .inl (cI, 120, .inl f_keys_8))] H locs → lv_has ls 6 [(0, .ref a0), (1, .int i1), (2, .int i2), (3, .int i3), (5, .int i5_8)] → W p l e (kk_rm 2 0 0 45) s m ([.ref a0, .int i1, .int i2, .int i3] : List Value).toArray below meth c H locs 0 0 Q (F0 m 123 ls []) := by
          intro n8
          induction n8 with
          | zero => intro x_many_8 f_keys_8 i5_8 h; exact kk_iter0 h
          | succ n8 ih8 =>
            intro x_many_8 f_keys_8 i5_8 hq H locs ls hw hl
            obtain ⟨y8, hF1, hI1⟩ := kk_iterS hq
            have hF1 : L_X8_addLine_123 N i1 i2 i3 x_many_8 f_keys_8 i5_8 = some y8 := hF1
            unfold L_X8_addLine_123 at hF1
            have hJ9 : ∀ (x_many_9 : Int32) (f_keys_9 : Nat → Int32) (i5_9 : Int32), J_X8_addLine_152 N x_many_9 f_keys_9 i5_9 = some y8 → ∀ (H : Heap) (locs : List Loc) (ls : Array Slot), kk_wd G A s.heap [(a0, .inr (8, [.ref a1, .int x_many_9, .int x_built, .int x_seed, .int x_graphSeed, .int x_bits, .int x_bucketMany, .int x_width, .ref a2, .ref a3, .ref a4, .ref a5, .ref a6, .ref a7, .ref a8, .ref a9, .ref a10, .ref a11, .ref a12, .int x_thrown_4])), (a1, .inl (cI, 120, .inl f_keys_9))] H locs → lv_has ls 6 [(0, .ref a0), (1, .int i1), (2, .int i2), (3, .int i3), (5, .int i5_9)] → W p l e (kk_rm 2 0 0 45) s m ([.ref a0, .int i1, .int i2, .int i3] : List Value).toArray below meth c H locs 0 0 Q (F0 m 152 ls []) := by
              intro x_many_9 f_keys_9 i5_9 hF1 H locs ls hw hl
              unfold J_X8_addLine_152 at hF1
              refine lv_iinc (v := (i5_9 + 1)) (lv' := [(5, .int (i5_9 + 1)), (0, .ref a0), (1, .int i1), (2, .int i2), (3, .int i3)]) hx hb dX8_addLine_152 hl (k := 4) rfl rfl (by decide) rfl (fun ls hl => ?_)
              refine lv_goto (tgt := 123) hx hb dX8_addLine_155 (by decide) ?_
              have hy := Option.some.inj hF1
              subst hy
              exact ih8 x_many_9 f_keys_9 (i5_9 + 1) hI1 _ _ _ hw (lv_sub hl [1, 2, 3, 4, 0] rfl)
            refine lv_iload hx hb dX8_addLine_123 (lv_at hl 4 rfl) ?_
            refine lv_iload_n hx hb dX8_addLine_125 rfl (lv_at hl 3 rfl) ?_
            refine lv_icmp_ge (tgt := 158) hx hb dX8_addLine_126 (by decide) (fun c10 => ?_) (fun c10 => ?_)
            · have hF1 := (if_pos c10).symm.trans hF1
              have hy := Option.some.inj hF1
              subst hy
              have hz := Option.some.inj hI1
              subst hz
              exact hJ1 x_many_8 x_thrown_4 f_keys_8 hF0 _ _ _ hw (lv_sub hl [0] rfl)
            · have hF1 := (if_neg c10).symm.trans hF1
              refine lv_aload_n hx hb dX8_addLine_129 rfl (lv_at hl 0 rfl) ?_
              refine lv_iload_n hx hb dX8_addLine_130 rfl (lv_at hl 1 rfl) ?_
              refine lv_iload_n hx hb dX8_addLine_131 rfl (lv_at hl 2 rfl) ?_
              refine lv_iload hx hb dX8_addLine_132 (lv_at hl 4 rfl) ?_
              refine lv_imul hx hb dX8_addLine_134 ?_
              refine lv_iadd hx hb dX8_addLine_135 ?_
              obtain ⟨v11, ev11, hF1⟩ := kk_bind hF1
              refine kk_callI 0 0 hw (kk_runV (As := [.int (i1 + (i2 * i5_8))]) (rest := []) F hw hl.1 (c_X8_is l G cI cJ ad a0 a1 a2 a3 a4 a5 a6 a7 a8 a9 a10 a11 a12 x_many_8 x_built x_seed x_graphSeed x_bits x_bucketMany x_width x_thrown_4 f_keys_8 (i1 + (i2 * i5_8)) N v11 ev11 H.size) gX8_addLine_X8_is rfl ⟨rfl, md_X8_is⟩ ⟨Nat.le_of_ble_eq_true rfl, Nat.le_of_ble_eq_true rfl⟩ ⟨Nat.le_of_ble_eq_true rfl, Nat.le_of_ble_eq_true rfl⟩ 0 8 rfl rfl rfl rfl (Nat.le_of_ble_eq_true rfl) dX8_addLine_136) ⟨rfl, rfl⟩ [0, 1] (by decide) rfl rfl (fun H locs hw => ?_)
              have hw : kk_wd G A s.heap [(a0, .inr (8, [.ref a1, .int x_many_8, .int x_built, .int x_seed, .int x_graphSeed, .int x_bits, .int x_bucketMany, .int x_width, .ref a2, .ref a3, .ref a4, .ref a5, .ref a6, .ref a7, .ref a8, .ref a9, .ref a10, .ref a11, .ref a12, .int x_thrown_4])), (a1, .inl (cI, 120, .inl f_keys_8))] H locs := hw
              refine lv_if_ne (tgt := 152) hx hb dX8_addLine_139 (by decide) (fun c12 => ?_) (fun c12 => ?_)
              · have hF1 := (if_neg c12).symm.trans hF1
                exact hJ9 x_many_8 f_keys_8 i5_8 hF1 _ _ _ hw (lv_sub hl [0, 1, 2, 3, 4] rfl)
              · have hF1 := (if_pos c12).symm.trans hF1
                refine lv_aload_n hx hb dX8_addLine_142 rfl (lv_at hl 0 rfl) ?_
                refine lv_iload_n hx hb dX8_addLine_143 rfl (lv_at hl 1 rfl) ?_
                refine lv_iload_n hx hb dX8_addLine_144 rfl (lv_at hl 2 rfl) ?_
                refine lv_iload hx hb dX8_addLine_145 (lv_at hl 4 rfl) ?_
                refine lv_imul hx hb dX8_addLine_147 ?_
                refine lv_iadd hx hb dX8_addLine_148 ?_
                obtain ⟨v13, ev13, hF1⟩ := kk_bind hF1
                refine kk_callV 0 0 hw (kk_runV (As := [.int (i1 + (i2 * i5_8))]) (rest := []) F hw hl.1 (c_X8_put l G cI cJ ad a0 a1 a2 a3 a4 a5 a6 a7 a8 a9 a10 a11 a12 x_many_8 x_built x_seed x_graphSeed x_bits x_bucketMany x_width x_thrown_4 f_keys_8 (i1 + (i2 * i5_8)) N v13 ev13 H.size) gX8_addLine_X8_put rfl ⟨rfl, md_X8_put⟩ ⟨Nat.le_of_ble_eq_true rfl, Nat.le_of_ble_eq_true rfl⟩ ⟨Nat.le_of_ble_eq_true rfl, Nat.le_of_ble_eq_true rfl⟩ 0 8 rfl rfl rfl rfl (Nat.le_of_ble_eq_true rfl) dX8_addLine_149) ⟨rfl, rfl⟩ [0, 1] (by decide) rfl rfl (fun H locs hw => ?_)
                have hw : kk_wd G A s.heap [(a0, .inr (8, [.ref a1, .int v13.1, .int x_built, .int x_seed, .int x_graphSeed, .int x_bits, .int x_bucketMany, .int x_width, .ref a2, .ref a3, .ref a4, .ref a5, .ref a6, .ref a7, .ref a8, .ref a9, .ref a10, .ref a11, .ref a12, .int x_thrown_4])), (a1, .inl (cI, 120, .inl v13.2))] H locs := hw
                exact hJ9 v13.1 v13.2 i5_8 hF1 _ _ _ hw (lv_sub hl [0, 1, 2, 3, 4] rfl)
        exact hL8 N x_many_4 f_keys_4 0 hz8 _ _ _ hw (lv_sub hl [1, 2, 3, 4, 0] rfl)
      · have hF0 := (if_neg c6).symm.trans hF0
        exact hJ2 x_many_4 x_thrown_4 f_keys_4 hF0 _ _ _ hw (lv_sub hl [0] rfl)
  have hJ14 : ∀ (x_many_14 : Int32) (x_thrown_14 : Int32) (f_keys_14 : Nat → Int32), J_X8_addLine_48 N x_many_14 x_thrown_14 f_keys_14 = some x → ∀ (H : Heap) (locs : List Loc) (ls : Array Slot), kk_wd G A s.heap [(a0, .inr (8, [.ref a1, .int x_many_14, .int x_built, .int x_seed, .int x_graphSeed, .int x_bits, .int x_bucketMany, .int x_width, .ref a2, .ref a3, .ref a4, .ref a5, .ref a6, .ref a7, .ref a8, .ref a9, .ref a10, .ref a11, .ref a12, .int x_thrown_14])), (a1, .inl (cI, 120, .inl f_keys_14))] H locs → lv_has ls 6 [(0, .ref a0)] → W p l e (kk_rm 2 0 0 45) s m ([.ref a0, .int i1, .int i2, .int i3] : List Value).toArray below meth c H locs 0 0 Q (F0 m 48 ls []) := by
    intro x_many_14 x_thrown_14 f_keys_14 hF0 H locs ls hw hl
    unfold J_X8_addLine_48 at hF0
    refine lv_aload_n hx hb dX8_addLine_48 rfl (lv_at hl 0 rfl) ?_
    refine lv_iconst (v := 1) hx hb dX8_addLine_49 (by decide) ?_
    obtain ⟨v15, ev15, hF0⟩ := kk_bind hF0
    refine kk_callI 0 0 hw (kk_runV (As := [.int 1]) (rest := []) F hw hl.1 (c_X8_fails l G cI cJ ad a0 a1 a2 a3 a4 a5 a6 a7 a8 a9 a10 a11 a12 x_many_14 x_built x_seed x_graphSeed x_bits x_bucketMany x_width x_thrown_14 1 N v15 ev15 H.size) gX8_addLine_X8_fails rfl ⟨rfl, md_X8_fails⟩ ⟨Nat.le_of_ble_eq_true rfl, Nat.le_of_ble_eq_true rfl⟩ ⟨Nat.le_of_ble_eq_true rfl, Nat.le_of_ble_eq_true rfl⟩ 0 8 rfl rfl rfl rfl (Nat.le_of_ble_eq_true rfl) dX8_addLine_50) ⟨rfl, rfl⟩ [0] (by decide) rfl rfl (fun H locs hw => ?_)
    have hw : kk_wd G A s.heap [(a0, .inr (8, [.ref a1, .int x_many_14, .int x_built, .int x_seed, .int x_graphSeed, .int x_bits, .int x_bucketMany, .int x_width, .ref a2, .ref a3, .ref a4, .ref a5, .ref a6, .ref a7, .ref a8, .ref a9, .ref a10, .ref a11, .ref a12, .int v15.2])), (a1, .inl (cI, 120, .inl f_keys_14))] H locs := hw
    have hy := Option.some.inj hF0
    subst hy
    exact hret dX8_addLine_53 (by decide) (by decide) hw
  refine lv_aload_n hx hb dX8_addLine_0 rfl (lv_at hl 0 rfl) ?_
  refine lv_iconst (v := 0) hx hb dX8_addLine_1 (by decide) ?_
  refine kk_put F hw ui_X8_addLine_X8 tyX8 tyX8_ok nmX8 0 rfl rfl 19 (by decide) m_X8_addLine_Cond_fieldLink_RX8_47_PerfectPewModel_thrown_I_ rfl rfl rfl (Nat.le_of_ble_eq_true rfl) dX8_addLine_2 (fun H locs hw => ?_)
  have hw : kk_wd G A s.heap [(a0, .inr (8, [.ref a1, .int x_many, .int x_built, .int x_seed, .int x_graphSeed, .int x_bits, .int x_bucketMany, .int x_width, .ref a2, .ref a3, .ref a4, .ref a5, .ref a6, .ref a7, .ref a8, .ref a9, .ref a10, .ref a11, .ref a12, .int 0])), (a1, .inl (cI, 120, .inl f_keys))] H locs := hw
  refine lv_iload_n hx hb dX8_addLine_5 rfl (lv_at hl 1 rfl) ?_
  refine lv_iconst (v := 0) hx hb dX8_addLine_6 (by decide) ?_
  refine lv_ldc hx hb hown (hts _ m_X8_addLine_Cond_constant_RX8_106_99999_) dX8_addLine_7 ?_
  obtain ⟨v16, ev16, hF0⟩ := kk_bind hF0
  refine kk_callI 0 0 hw (kk_runS (As := [.int i1, .int 0, .int 99999]) (rest := []) F hw hl.1 (c_X8_in l G cI cJ ad i1 0 99999 N v16 ev16 H.size) gX8_addLine_X8_in rfl md_X8_in ⟨Nat.le_of_ble_eq_true rfl, Nat.le_of_ble_eq_true rfl⟩ ⟨Nat.le_of_ble_eq_true rfl, Nat.le_of_ble_eq_true rfl⟩ rfl (Nat.le_of_ble_eq_true rfl) dX8_addLine_9) ⟨rfl, rfl⟩ [] (by decide) rfl rfl (fun H locs hw => ?_)
  refine lv_if_eq (tgt := 48) hx hb dX8_addLine_12 (by decide) (fun c17 => ?_) (fun c17 => ?_)
  · have hF0 := (if_pos c17).symm.trans hF0
    exact hJ14 x_many 0 f_keys hF0 _ _ _ hw (lv_sub hl [0] rfl)
  · have hF0 := (if_neg c17).symm.trans hF0
    refine lv_iload_n hx hb dX8_addLine_15 rfl (lv_at hl 2 rfl) ?_
    refine lv_iconst (v := 1) hx hb dX8_addLine_16 (by decide) ?_
    refine lv_sipush (v := 9999) hx hb dX8_addLine_17 (by decide) ?_
    obtain ⟨v18, ev18, hF0⟩ := kk_bind hF0
    refine kk_callI 0 0 hw (kk_runS (As := [.int i2, .int 1, .int 9999]) (rest := []) F hw hl.1 (c_X8_in l G cI cJ ad i2 1 9999 N v18 ev18 H.size) gX8_addLine_X8_in rfl md_X8_in ⟨Nat.le_of_ble_eq_true rfl, Nat.le_of_ble_eq_true rfl⟩ ⟨Nat.le_of_ble_eq_true rfl, Nat.le_of_ble_eq_true rfl⟩ rfl (Nat.le_of_ble_eq_true rfl) dX8_addLine_20) ⟨rfl, rfl⟩ [] (by decide) rfl rfl (fun H locs hw => ?_)
    refine lv_if_eq (tgt := 48) hx hb dX8_addLine_23 (by decide) (fun c19 => ?_) (fun c19 => ?_)
    · have hF0 := (if_pos c19).symm.trans hF0
      exact hJ14 x_many 0 f_keys hF0 _ _ _ hw (lv_sub hl [0] rfl)
    · have hF0 := (if_neg c19).symm.trans hF0
      refine lv_iload_n hx hb dX8_addLine_26 rfl (lv_at hl 3 rfl) ?_
      refine lv_iconst (v := 1) hx hb dX8_addLine_27 (by decide) ?_
      refine lv_bipush (v := 40) hx hb dX8_addLine_28 (by decide) ?_
      obtain ⟨v20, ev20, hF0⟩ := kk_bind hF0
      refine kk_callI 0 0 hw (kk_runS (As := [.int i3, .int 1, .int 40]) (rest := []) F hw hl.1 (c_X8_in l G cI cJ ad i3 1 40 N v20 ev20 H.size) gX8_addLine_X8_in rfl md_X8_in ⟨Nat.le_of_ble_eq_true rfl, Nat.le_of_ble_eq_true rfl⟩ ⟨Nat.le_of_ble_eq_true rfl, Nat.le_of_ble_eq_true rfl⟩ rfl (Nat.le_of_ble_eq_true rfl) dX8_addLine_30) ⟨rfl, rfl⟩ [] (by decide) rfl rfl (fun H locs hw => ?_)
      refine lv_if_eq (tgt := 48) hx hb dX8_addLine_33 (by decide) (fun c21 => ?_) (fun c21 => ?_)
      · have hF0 := (if_pos c21).symm.trans hF0
        exact hJ14 x_many 0 f_keys hF0 _ _ _ hw (lv_sub hl [0] rfl)
      · have hF0 := (if_neg c21).symm.trans hF0
        refine lv_iload_n hx hb dX8_addLine_36 rfl (lv_at hl 1 rfl) ?_
        refine lv_iload_n hx hb dX8_addLine_37 rfl (lv_at hl 2 rfl) ?_
        refine lv_iload_n hx hb dX8_addLine_38 rfl (lv_at hl 3 rfl) ?_
        refine lv_iconst (v := 1) hx hb dX8_addLine_39 (by decide) ?_
        refine lv_isub hx hb dX8_addLine_40 ?_
        refine lv_imul hx hb dX8_addLine_41 ?_
        refine lv_iadd hx hb dX8_addLine_42 ?_
        refine lv_ldc hx hb hown (hts _ m_X8_addLine_Cond_constant_RX8_106_99999_) dX8_addLine_43 ?_
        refine lv_icmp_le (tgt := 54) hx hb dX8_addLine_45 (by decide) (fun c22 => ?_) (fun c22 => ?_)
        · have hF0 := (if_pos c22).symm.trans hF0
          refine lv_iconst (v := 0) hx hb dX8_addLine_54 (by decide) ?_
          refine lv_istore (lv' := [(4, .int 0), (0, .ref a0), (1, .int i1), (2, .int i2), (3, .int i3)]) hx hb dX8_addLine_55 hl (by decide) rfl (fun ls hl => ?_)
          refine lv_iconst (v := 0) hx hb dX8_addLine_57 (by decide) ?_
          refine lv_istore (lv' := [(5, .int 0), (4, .int 0), (0, .ref a0), (1, .int i1), (2, .int i2), (3, .int i3)]) hx hb dX8_addLine_58 hl (by decide) rfl (fun ls hl => ?_)
          obtain ⟨z23, hz24, hF0⟩ := kk_bind hF0
          have hL24 : ∀ (n24 : Nat) (i4_24 : Int32) (i5_24 : Int32), kk_iter (fun (σ : (Int32 × Int32)) => L_X8_addLine_60 N x_many f_keys i1 i2 i3 σ.1 σ.2) n24 (i4_24, i5_24) = some z23 → ∀ (H : Heap) (locs : List Loc) (ls : Array Slot), kk_wd G A s.heap [(a0, .inr (8, [.ref a1, .int x_many, .int x_built, .int x_seed, .int x_graphSeed, .int x_bits, .int x_bucketMany, .int x_width, .ref a2, .ref a3, .ref a4, .ref a5, .ref a6, .ref a7, .ref a8, .ref a9, .ref a10, .ref a11, .ref a12, .int 0])), (a1, .inl (cI, 120, .inl f_keys))] H locs → lv_has ls 6 [(0, .ref a0), (1, .int i1), (2, .int i2), (3, .int i3), (4, .int i4_24), (5, .int i5_24)] → W p l e (kk_rm 2 0 0 45) s m ([.ref a0, .int i1, .int i2, .int i3] : List Value).toArray below meth c H locs 0 0 Q (F0 m 60 ls []) := by
            intro n24
            induction n24 with
            | zero => intro i4_24 i5_24 h; exact kk_iter0 h
            | succ n24 ih24 =>
              intro i4_24 i5_24 hq H locs ls hw hl
              obtain ⟨y24, hF1, hI1⟩ := kk_iterS hq
              have hF1 : L_X8_addLine_60 N x_many f_keys i1 i2 i3 i4_24 i5_24 = some y24 := hF1
              unfold L_X8_addLine_60 at hF1
              have hJ25 : ∀ (i5_25 : Int32) (s0_25 : Int32) (s1_25 : Int32), J_X8_addLine_86 N i5_25 s0_25 s1_25 = some y24 → ∀ (H : Heap) (locs : List Loc) (ls : Array Slot), kk_wd G A s.heap [(a0, .inr (8, [.ref a1, .int x_many, .int x_built, .int x_seed, .int x_graphSeed, .int x_bits, .int x_bucketMany, .int x_width, .ref a2, .ref a3, .ref a4, .ref a5, .ref a6, .ref a7, .ref a8, .ref a9, .ref a10, .ref a11, .ref a12, .int 0])), (a1, .inl (cI, 120, .inl f_keys))] H locs → lv_has ls 6 [(0, .ref a0), (1, .int i1), (2, .int i2), (3, .int i3), (5, .int i5_25)] → W p l e (kk_rm 2 0 0 45) s m ([.ref a0, .int i1, .int i2, .int i3] : List Value).toArray below meth c H locs 0 0 Q (F0 m 86 ls [.int s1_25, .int s0_25]) := by
                intro i5_25 s0_25 s1_25 hF1 H locs ls hw hl
                unfold J_X8_addLine_86 at hF1
                refine lv_iadd hx hb dX8_addLine_86 ?_
                refine lv_istore (lv' := [(4, .int (s0_25 + s1_25)), (0, .ref a0), (1, .int i1), (2, .int i2), (3, .int i3), (5, .int i5_25)]) hx hb dX8_addLine_87 hl (by decide) rfl (fun ls hl => ?_)
                refine lv_iinc (v := (i5_25 + 1)) (lv' := [(5, .int (i5_25 + 1)), (4, .int (s0_25 + s1_25)), (0, .ref a0), (1, .int i1), (2, .int i2), (3, .int i3)]) hx hb dX8_addLine_89 hl (k := 5) rfl rfl (by decide) rfl (fun ls hl => ?_)
                refine lv_goto (tgt := 60) hx hb dX8_addLine_92 (by decide) ?_
                have hy := Option.some.inj hF1
                subst hy
                exact ih24 (s0_25 + s1_25) (i5_25 + 1) hI1 _ _ _ hw (lv_sub hl [2, 3, 4, 5, 1, 0] rfl)
              refine lv_iload hx hb dX8_addLine_60 (lv_at hl 5 rfl) ?_
              refine lv_iload_n hx hb dX8_addLine_62 rfl (lv_at hl 3 rfl) ?_
              refine lv_icmp_ge (tgt := 95) hx hb dX8_addLine_63 (by decide) (fun c26 => ?_) (fun c26 => ?_)
              · have hF1 := (if_pos c26).symm.trans hF1
                have hy := Option.some.inj hF1
                subst hy
                have hz := Option.some.inj hI1
                subst hz
                exact hJ4 x_many 0 f_keys i4_24 hF0 _ _ _ hw (lv_sub hl [0, 1, 2, 3, 4] rfl)
              · have hF1 := (if_neg c26).symm.trans hF1
                refine lv_iload hx hb dX8_addLine_66 (lv_at hl 4 rfl) ?_
                refine lv_aload_n hx hb dX8_addLine_68 rfl (lv_at hl 0 rfl) ?_
                refine lv_iload_n hx hb dX8_addLine_69 rfl (lv_at hl 1 rfl) ?_
                refine lv_iload_n hx hb dX8_addLine_70 rfl (lv_at hl 2 rfl) ?_
                refine lv_iload hx hb dX8_addLine_71 (lv_at hl 5 rfl) ?_
                refine lv_imul hx hb dX8_addLine_73 ?_
                refine lv_iadd hx hb dX8_addLine_74 ?_
                obtain ⟨v27, ev27, hF1⟩ := kk_bind hF1
                refine kk_callI 0 0 hw (kk_runV (As := [.int (i1 + (i2 * i5_24))]) (rest := [.int i4_24]) F hw hl.1 (c_X8_is l G cI cJ ad a0 a1 a2 a3 a4 a5 a6 a7 a8 a9 a10 a11 a12 x_many x_built x_seed x_graphSeed x_bits x_bucketMany x_width 0 f_keys (i1 + (i2 * i5_24)) N v27 ev27 H.size) gX8_addLine_X8_is rfl ⟨rfl, md_X8_is⟩ ⟨Nat.le_of_ble_eq_true rfl, Nat.le_of_ble_eq_true rfl⟩ ⟨Nat.le_of_ble_eq_true rfl, Nat.le_of_ble_eq_true rfl⟩ 0 8 rfl rfl rfl rfl (Nat.le_of_ble_eq_true rfl) dX8_addLine_75) ⟨rfl, rfl⟩ [0, 1] (by decide) rfl rfl (fun H locs hw => ?_)
                have hw : kk_wd G A s.heap [(a0, .inr (8, [.ref a1, .int x_many, .int x_built, .int x_seed, .int x_graphSeed, .int x_bits, .int x_bucketMany, .int x_width, .ref a2, .ref a3, .ref a4, .ref a5, .ref a6, .ref a7, .ref a8, .ref a9, .ref a10, .ref a11, .ref a12, .int 0])), (a1, .inl (cI, 120, .inl f_keys))] H locs := hw
                refine lv_if_eq (tgt := 85) hx hb dX8_addLine_78 (by decide) (fun c28 => ?_) (fun c28 => ?_)
                · have hF1 := (if_pos c28).symm.trans hF1
                  refine lv_iconst (v := 1) hx hb dX8_addLine_85 (by decide) ?_
                  exact hJ25 i5_24 i4_24 1 hF1 _ _ _ hw (lv_sub hl [0, 1, 2, 3, 5] rfl)
                · have hF1 := (if_neg c28).symm.trans hF1
                  refine lv_iconst (v := 0) hx hb dX8_addLine_81 (by decide) ?_
                  refine lv_goto (tgt := 86) hx hb dX8_addLine_82 (by decide) ?_
                  exact hJ25 i5_24 i4_24 0 hF1 _ _ _ hw (lv_sub hl [0, 1, 2, 3, 5] rfl)
          exact hL24 N 0 0 hz24 _ _ _ hw (lv_sub hl [2, 3, 4, 5, 1, 0] rfl)
        · have hF0 := (if_neg c22).symm.trans hF0
          exact hJ14 x_many 0 f_keys hF0 _ _ _ hw (lv_sub hl [0] rfl)
theorem ui_X8_remove_X8 : ∀ w ∈ u_ws RX8 TX8 20, w ∈ wsX8_remove := by decide +kernel
theorem m_X8_remove_Cond_fieldLink_RX8_99_PerfectPewModel_many_I_ : Cond.fieldLink RX8 99 "PerfectPewModel" "many" "I" ∈ wsX8_remove := by decide +kernel
theorem m_X8_remove_Cond_fieldLink_RX8_47_PerfectPewModel_thrown_I_ : Cond.fieldLink RX8 47 "PerfectPewModel" "thrown" "I" ∈ wsX8_remove := by decide +kernel
theorem m_X8_remove_Cond_constant_RX8_106_99999_ : Cond.constant RX8 106 (99999) ∈ wsX8_remove := by decide +kernel
theorem m_X8_remove_Cond_fieldLink_RX8_114_PerfectPewModel_built_Z_ : Cond.fieldLink RX8 114 "PerfectPewModel" "built" "Z" ∈ wsX8_remove := by decide +kernel
theorem m_X8_remove_Cond_fieldLink_RX8_7_PerfectPewModel_keys_I_ : Cond.fieldLink RX8 7 "PerfectPewModel" "keys" "[I" ∈ wsX8_remove := by decide +kernel
set_option maxRecDepth 100000 in
set_option maxHeartbeats 4000000 in
theorem c_X8_remove (l : Launch) (G : va_G) (cI cJ : ClassId) (ad : Nat → Nat) (a0 a1 a2 a3 a4 a5 a6 a7 a8 a9 a10 a11 a12 : Nat) (x_many : Int32) (x_built : Int32) (x_seed : Int32) (x_graphSeed : Int32) (x_bits : Int32) (x_bucketMany : Int32) (x_width : Int32) (x_thrown : Int32) (f_keys : Nat → Int32) (i1 : Int32) (N : Nat) (x : (Int32 × Int32 × Int32 × (Nat → Int32))) (hF0 : F_X8_remove N x_many x_built x_thrown f_keys i1 = some x) : kk_I l yX8_remove wsX8_remove 2 0 0 44 [.ref a0, .int i1] G cI cJ ad [(a0, .inr (8, [.ref a1, .int x_many, .int x_built, .int x_seed, .int x_graphSeed, .int x_bits, .int x_bucketMany, .int x_width, .ref a2, .ref a3, .ref a4, .ref a5, .ref a6, .ref a7, .ref a8, .ref a9, .ref a10, .ref a11, .ref a12, .int x_thrown])), (a1, .inl (cI, 120, .inl f_keys))] x.1 [(a0, .inr (8, [.ref a1, .int x.2.1, .int x_built, .int x_seed, .int x_graphSeed, .int x_bits, .int x_bucketMany, .int x_width, .ref a2, .ref a3, .ref a4, .ref a5, .ref a6, .ref a7, .ref a8, .ref a9, .ref a10, .ref a11, .ref a12, .int x.2.2.1])), (a1, .inl (cI, 120, .inl x.2.2.2))] := by
  refine kk_ofI (cc := cX8_remove) (maxL := 3) (by decide) rfl (Nat.le_of_ble_eq_true rfl) ?_
  intro p e s m below meth c A Q ls H locs hx hb hml hown hts hE hw hl hret
  have F : kk_at p m c cX8_remove 3 s _ wsX8_remove RX8 G cI cJ ad A := ⟨⟨hx, hb, hml, hown, hts⟩, hE⟩
  have hl : lv_has ls 3 [(0, .ref a0), (1, .int i1)] := hl
  unfold F_X8_remove at hF0
  have hJ1 : ∀ (x_many_1 : Int32) (x_thrown_1 : Int32) (f_keys_1 : Nat → Int32), J_X8_remove_86 N x_many_1 x_thrown_1 f_keys_1 = some x → ∀ (H : Heap) (locs : List Loc) (ls : Array Slot), kk_wd G A s.heap [(a0, .inr (8, [.ref a1, .int x_many_1, .int x_built, .int x_seed, .int x_graphSeed, .int x_bits, .int x_bucketMany, .int x_width, .ref a2, .ref a3, .ref a4, .ref a5, .ref a6, .ref a7, .ref a8, .ref a9, .ref a10, .ref a11, .ref a12, .int x_thrown_1])), (a1, .inl (cI, 120, .inl f_keys_1))] H locs → lv_has ls 3 [(0, .ref a0)] → W p l e (kk_rm 2 0 0 44) s m ([.ref a0, .int i1] : List Value).toArray below meth c H locs 0 0 Q (F0 m 86 ls []) := by
    intro x_many_1 x_thrown_1 f_keys_1 hF0 H locs ls hw hl
    unfold J_X8_remove_86 at hF0
    refine lv_aload_n hx hb dX8_remove_86 rfl (lv_at hl 0 rfl) ?_
    refine kk_get (T := TX8) F hw ui_X8_remove_X8 0 rfl rfl 1 (by decide) m_X8_remove_Cond_fieldLink_RX8_99_PerfectPewModel_many_I_ rfl dX8_remove_87 ?_
    have hy := Option.some.inj hF0
    subst hy
    exact hret dX8_remove_90 (by decide) (by decide) hw
  have hJ2 : ∀ (x_many_2 : Int32) (x_thrown_2 : Int32) (f_keys_2 : Nat → Int32), J_X8_remove_36 N x_many_2 x_thrown_2 f_keys_2 = some x → ∀ (H : Heap) (locs : List Loc) (ls : Array Slot), kk_wd G A s.heap [(a0, .inr (8, [.ref a1, .int x_many_2, .int x_built, .int x_seed, .int x_graphSeed, .int x_bits, .int x_bucketMany, .int x_width, .ref a2, .ref a3, .ref a4, .ref a5, .ref a6, .ref a7, .ref a8, .ref a9, .ref a10, .ref a11, .ref a12, .int x_thrown_2])), (a1, .inl (cI, 120, .inl f_keys_2))] H locs → lv_has ls 3 [(0, .ref a0)] → W p l e (kk_rm 2 0 0 44) s m ([.ref a0, .int i1] : List Value).toArray below meth c H locs 0 0 Q (F0 m 36 ls []) := by
    intro x_many_2 x_thrown_2 f_keys_2 hF0 H locs ls hw hl
    unfold J_X8_remove_36 at hF0
    refine lv_aload_n hx hb dX8_remove_36 rfl (lv_at hl 0 rfl) ?_
    refine lv_iconst (v := 2) hx hb dX8_remove_37 (by decide) ?_
    obtain ⟨v3, ev3, hF0⟩ := kk_bind hF0
    refine kk_callI 0 0 hw (kk_runV (As := [.int 2]) (rest := []) F hw hl.1 (c_X8_fails l G cI cJ ad a0 a1 a2 a3 a4 a5 a6 a7 a8 a9 a10 a11 a12 x_many_2 x_built x_seed x_graphSeed x_bits x_bucketMany x_width x_thrown_2 2 N v3 ev3 H.size) gX8_remove_X8_fails rfl ⟨rfl, md_X8_fails⟩ ⟨Nat.le_of_ble_eq_true rfl, Nat.le_of_ble_eq_true rfl⟩ ⟨Nat.le_of_ble_eq_true rfl, Nat.le_of_ble_eq_true rfl⟩ 0 8 rfl rfl rfl rfl (Nat.le_of_ble_eq_true rfl) dX8_remove_38) ⟨rfl, rfl⟩ [0] (by decide) rfl rfl (fun H locs hw => ?_)
    have hw : kk_wd G A s.heap [(a0, .inr (8, [.ref a1, .int x_many_2, .int x_built, .int x_seed, .int x_graphSeed, .int x_bits, .int x_bucketMany, .int x_width, .ref a2, .ref a3, .ref a4, .ref a5, .ref a6, .ref a7, .ref a8, .ref a9, .ref a10, .ref a11, .ref a12, .int v3.2])), (a1, .inl (cI, 120, .inl f_keys_2))] H locs := hw
    have hy := Option.some.inj hF0
    subst hy
    exact hret dX8_remove_41 (by decide) (by decide) hw
  refine lv_aload_n hx hb dX8_remove_0 rfl (lv_at hl 0 rfl) ?_
  refine lv_iconst (v := 0) hx hb dX8_remove_1 (by decide) ?_
  refine kk_put F hw ui_X8_remove_X8 tyX8 tyX8_ok nmX8 0 rfl rfl 19 (by decide) m_X8_remove_Cond_fieldLink_RX8_47_PerfectPewModel_thrown_I_ rfl rfl rfl (Nat.le_of_ble_eq_true rfl) dX8_remove_2 (fun H locs hw => ?_)
  have hw : kk_wd G A s.heap [(a0, .inr (8, [.ref a1, .int x_many, .int x_built, .int x_seed, .int x_graphSeed, .int x_bits, .int x_bucketMany, .int x_width, .ref a2, .ref a3, .ref a4, .ref a5, .ref a6, .ref a7, .ref a8, .ref a9, .ref a10, .ref a11, .ref a12, .int 0])), (a1, .inl (cI, 120, .inl f_keys))] H locs := hw
  refine lv_iload_n hx hb dX8_remove_5 rfl (lv_at hl 1 rfl) ?_
  refine lv_iconst (v := 0) hx hb dX8_remove_6 (by decide) ?_
  refine lv_ldc hx hb hown (hts _ m_X8_remove_Cond_constant_RX8_106_99999_) dX8_remove_7 ?_
  obtain ⟨v4, ev4, hF0⟩ := kk_bind hF0
  refine kk_callI 0 0 hw (kk_runS (As := [.int i1, .int 0, .int 99999]) (rest := []) F hw hl.1 (c_X8_in l G cI cJ ad i1 0 99999 N v4 ev4 H.size) gX8_remove_X8_in rfl md_X8_in ⟨Nat.le_of_ble_eq_true rfl, Nat.le_of_ble_eq_true rfl⟩ ⟨Nat.le_of_ble_eq_true rfl, Nat.le_of_ble_eq_true rfl⟩ rfl (Nat.le_of_ble_eq_true rfl) dX8_remove_9) ⟨rfl, rfl⟩ [] (by decide) rfl rfl (fun H locs hw => ?_)
  refine lv_if_ne (tgt := 21) hx hb dX8_remove_12 (by decide) (fun c5 => ?_) (fun c5 => ?_)
  · have hF0 := (if_neg c5).symm.trans hF0
    refine lv_aload_n hx hb dX8_remove_21 rfl (lv_at hl 0 rfl) ?_
    refine kk_get (T := TX8) F hw ui_X8_remove_X8 0 rfl rfl 2 (by decide) m_X8_remove_Cond_fieldLink_RX8_114_PerfectPewModel_built_Z_ rfl dX8_remove_22 ?_
    refine lv_if_ne (tgt := 36) hx hb dX8_remove_25 (by decide) (fun c6 => ?_) (fun c6 => ?_)
    · have hF0 := (if_neg c6).symm.trans hF0
      exact hJ2 x_many 0 f_keys hF0 _ _ _ hw (lv_sub hl [0] rfl)
    · have hF0 := (if_pos c6).symm.trans hF0
      refine lv_aload_n hx hb dX8_remove_28 rfl (lv_at hl 0 rfl) ?_
      refine lv_iload_n hx hb dX8_remove_29 rfl (lv_at hl 1 rfl) ?_
      obtain ⟨v7, ev7, hF0⟩ := kk_bind hF0
      refine kk_callI 0 0 hw (kk_runV (As := [.int i1]) (rest := []) F hw hl.1 (c_X8_is l G cI cJ ad a0 a1 a2 a3 a4 a5 a6 a7 a8 a9 a10 a11 a12 x_many x_built x_seed x_graphSeed x_bits x_bucketMany x_width 0 f_keys i1 N v7 ev7 H.size) gX8_remove_X8_is rfl ⟨rfl, md_X8_is⟩ ⟨Nat.le_of_ble_eq_true rfl, Nat.le_of_ble_eq_true rfl⟩ ⟨Nat.le_of_ble_eq_true rfl, Nat.le_of_ble_eq_true rfl⟩ 0 8 rfl rfl rfl rfl (Nat.le_of_ble_eq_true rfl) dX8_remove_30) ⟨rfl, rfl⟩ [0, 1] (by decide) rfl rfl (fun H locs hw => ?_)
      have hw : kk_wd G A s.heap [(a0, .inr (8, [.ref a1, .int x_many, .int x_built, .int x_seed, .int x_graphSeed, .int x_bits, .int x_bucketMany, .int x_width, .ref a2, .ref a3, .ref a4, .ref a5, .ref a6, .ref a7, .ref a8, .ref a9, .ref a10, .ref a11, .ref a12, .int 0])), (a1, .inl (cI, 120, .inl f_keys))] H locs := hw
      refine lv_if_ne (tgt := 42) hx hb dX8_remove_33 (by decide) (fun c8 => ?_) (fun c8 => ?_)
      · have hF0 := (if_neg c8).symm.trans hF0
        refine lv_aload_n hx hb dX8_remove_42 rfl (lv_at hl 0 rfl) ?_
        refine lv_dup hx hb dX8_remove_43 rfl ?_
        refine kk_get (T := TX8) F hw ui_X8_remove_X8 0 rfl rfl 1 (by decide) m_X8_remove_Cond_fieldLink_RX8_99_PerfectPewModel_many_I_ rfl dX8_remove_44 ?_
        refine lv_iconst (v := 1) hx hb dX8_remove_47 (by decide) ?_
        refine lv_isub hx hb dX8_remove_48 ?_
        refine kk_put F hw ui_X8_remove_X8 tyX8 tyX8_ok nmX8 0 rfl rfl 1 (by decide) m_X8_remove_Cond_fieldLink_RX8_99_PerfectPewModel_many_I_ rfl rfl rfl (Nat.le_of_ble_eq_true rfl) dX8_remove_49 (fun H locs hw => ?_)
        have hw : kk_wd G A s.heap [(a0, .inr (8, [.ref a1, .int (x_many - 1), .int x_built, .int x_seed, .int x_graphSeed, .int x_bits, .int x_bucketMany, .int x_width, .ref a2, .ref a3, .ref a4, .ref a5, .ref a6, .ref a7, .ref a8, .ref a9, .ref a10, .ref a11, .ref a12, .int 0])), (a1, .inl (cI, 120, .inl f_keys))] H locs := hw
        refine lv_aload_n hx hb dX8_remove_52 rfl (lv_at hl 0 rfl) ?_
        refine lv_iload_n hx hb dX8_remove_53 rfl (lv_at hl 1 rfl) ?_
        obtain ⟨v9, ev9, hF0⟩ := kk_bind hF0
        refine kk_callI 0 0 hw (kk_runV (As := [.int i1]) (rest := []) F hw hl.1 (c_X8_below l G cI cJ ad a0 a1 a2 a3 a4 a5 a6 a7 a8 a9 a10 a11 a12 (x_many - 1) x_built x_seed x_graphSeed x_bits x_bucketMany x_width 0 f_keys i1 N v9 ev9 H.size) gX8_remove_X8_below rfl ⟨rfl, md_X8_below⟩ ⟨Nat.le_of_ble_eq_true rfl, Nat.le_of_ble_eq_true rfl⟩ ⟨Nat.le_of_ble_eq_true rfl, Nat.le_of_ble_eq_true rfl⟩ 0 8 rfl rfl rfl rfl (Nat.le_of_ble_eq_true rfl) dX8_remove_54) ⟨rfl, rfl⟩ [0, 1] (by decide) rfl rfl (fun H locs hw => ?_)
        have hw : kk_wd G A s.heap [(a0, .inr (8, [.ref a1, .int (x_many - 1), .int x_built, .int x_seed, .int x_graphSeed, .int x_bits, .int x_bucketMany, .int x_width, .ref a2, .ref a3, .ref a4, .ref a5, .ref a6, .ref a7, .ref a8, .ref a9, .ref a10, .ref a11, .ref a12, .int 0])), (a1, .inl (cI, 120, .inl f_keys))] H locs := hw
        refine lv_istore_n (lv' := [(2, .int v9), (0, .ref a0), (1, .int i1)]) hx hb dX8_remove_57 rfl hl (by decide) rfl (fun ls hl => ?_)
        obtain ⟨z10, hz11, hF0⟩ := kk_bind hF0
        have hL11 : ∀ (n11 : Nat) (f_keys_11 : Nat → Int32) (i2_11 : Int32), kk_iter (fun (σ : ((Nat → Int32) × Int32)) => L_X8_remove_58 N (x_many - 1) σ.1 σ.2) n11 (f_keys_11, i2_11) = some z10 → ∀ (H : Heap) (locs : List Loc) (ls : Array Slot), kk_wd G A s.heap [(a0, .inr (8, [.ref a1, .int (x_many - 1), .int x_built, .int x_seed, .int x_graphSeed, .int x_bits, .int x_bucketMany, .int x_width, .ref a2, .ref a3, .ref a4, .ref a5, .ref a6, .ref a7, .ref a8, .ref a9, .ref a10, .ref a11, .ref a12, .int 0])), (a1, .inl (cI, 120, .inl f_keys_11))] H locs → lv_has ls 3 [(0, .ref a0), (2, .int i2_11)] → W p l e (kk_rm 2 0 0 44) s m ([.ref a0, .int i1] : List Value).toArray below meth c H locs 0 0 Q (F0 m 58 ls []) := by
          intro n11
          induction n11 with
          | zero => intro f_keys_11 i2_11 h; exact kk_iter0 h
          | succ n11 ih11 =>
            intro f_keys_11 i2_11 hq H locs ls hw hl
            obtain ⟨y11, hF1, hI1⟩ := kk_iterS hq
            have hF1 : L_X8_remove_58 N (x_many - 1) f_keys_11 i2_11 = some y11 := hF1
            unfold L_X8_remove_58 at hF1
            refine lv_iload_n hx hb dX8_remove_58 rfl (lv_at hl 1 rfl) ?_
            refine lv_aload_n hx hb dX8_remove_59 rfl (lv_at hl 0 rfl) ?_
            refine kk_get (T := TX8) F hw ui_X8_remove_X8 0 rfl rfl 1 (by decide) m_X8_remove_Cond_fieldLink_RX8_99_PerfectPewModel_many_I_ rfl dX8_remove_60 ?_
            refine lv_icmp_ge (tgt := 86) hx hb dX8_remove_63 (by decide) (fun c12 => ?_) (fun c12 => ?_)
            · have hF1 := (if_pos c12).symm.trans hF1
              have hy := Option.some.inj hF1
              subst hy
              have hz := Option.some.inj hI1
              subst hz
              exact hJ1 (x_many - 1) 0 f_keys_11 hF0 _ _ _ hw (lv_sub hl [0] rfl)
            · have hF1 := (if_neg c12).symm.trans hF1
              refine lv_aload_n hx hb dX8_remove_66 rfl (lv_at hl 0 rfl) ?_
              refine kk_get (T := TX8) F hw ui_X8_remove_X8 0 rfl rfl 0 (by decide) m_X8_remove_Cond_fieldLink_RX8_7_PerfectPewModel_keys_I_ rfl dX8_remove_67 ?_
              refine lv_iload_n hx hb dX8_remove_70 rfl (lv_at hl 1 rfl) ?_
              refine lv_aload_n hx hb dX8_remove_71 rfl (lv_at hl 0 rfl) ?_
              refine kk_get (T := TX8) F hw ui_X8_remove_X8 0 rfl rfl 0 (by decide) m_X8_remove_Cond_fieldLink_RX8_7_PerfectPewModel_keys_I_ rfl dX8_remove_72 ?_
              refine lv_iload_n hx hb dX8_remove_75 rfl (lv_at hl 1 rfl) ?_
              refine lv_iconst (v := 1) hx hb dX8_remove_76 (by decide) ?_
              refine lv_iadd hx hb dX8_remove_77 ?_
              obtain ⟨v13, ev13, hF1⟩ := kk_bind hF1
              refine kk_iald F hw 1 rfl ev13 dX8_remove_78 ?_
              obtain ⟨w14, ew14, hF1⟩ := kk_bind hF1
              refine kk_iast F hw 1 rfl ew14 dX8_remove_79 (fun H locs hw => ?_)
              have hw : kk_wd G A s.heap [(a0, .inr (8, [.ref a1, .int (x_many - 1), .int x_built, .int x_seed, .int x_graphSeed, .int x_bits, .int x_bucketMany, .int x_width, .ref a2, .ref a3, .ref a4, .ref a5, .ref a6, .ref a7, .ref a8, .ref a9, .ref a10, .ref a11, .ref a12, .int 0])), (a1, .inl (cI, 120, .inl w14))] H locs := hw
              refine lv_iinc (v := (i2_11 + 1)) (lv' := [(2, .int (i2_11 + 1)), (0, .ref a0)]) hx hb dX8_remove_80 hl (k := 1) rfl rfl (by decide) rfl (fun ls hl => ?_)
              refine lv_goto (tgt := 58) hx hb dX8_remove_83 (by decide) ?_
              have hy := Option.some.inj hF1
              subst hy
              exact ih11 w14 (i2_11 + 1) hI1 _ _ _ hw (lv_sub hl [1, 0] rfl)
        exact hL11 N f_keys v9 hz11 _ _ _ hw (lv_sub hl [1, 0] rfl)
      · have hF0 := (if_pos c8).symm.trans hF0
        exact hJ2 x_many 0 f_keys hF0 _ _ _ hw (lv_sub hl [0] rfl)
  · have hF0 := (if_pos c5).symm.trans hF0
    refine lv_aload_n hx hb dX8_remove_15 rfl (lv_at hl 0 rfl) ?_
    refine lv_iconst (v := 1) hx hb dX8_remove_16 (by decide) ?_
    obtain ⟨v15, ev15, hF0⟩ := kk_bind hF0
    refine kk_callI 0 0 hw (kk_runV (As := [.int 1]) (rest := []) F hw hl.1 (c_X8_fails l G cI cJ ad a0 a1 a2 a3 a4 a5 a6 a7 a8 a9 a10 a11 a12 x_many x_built x_seed x_graphSeed x_bits x_bucketMany x_width 0 1 N v15 ev15 H.size) gX8_remove_X8_fails rfl ⟨rfl, md_X8_fails⟩ ⟨Nat.le_of_ble_eq_true rfl, Nat.le_of_ble_eq_true rfl⟩ ⟨Nat.le_of_ble_eq_true rfl, Nat.le_of_ble_eq_true rfl⟩ 0 8 rfl rfl rfl rfl (Nat.le_of_ble_eq_true rfl) dX8_remove_17) ⟨rfl, rfl⟩ [0] (by decide) rfl rfl (fun H locs hw => ?_)
    have hw : kk_wd G A s.heap [(a0, .inr (8, [.ref a1, .int x_many, .int x_built, .int x_seed, .int x_graphSeed, .int x_bits, .int x_bucketMany, .int x_width, .ref a2, .ref a3, .ref a4, .ref a5, .ref a6, .ref a7, .ref a8, .ref a9, .ref a10, .ref a11, .ref a12, .int v15.2])), (a1, .inl (cI, 120, .inl f_keys))] H locs := hw
    have hy := Option.some.inj hF0
    subst hy
    exact hret dX8_remove_20 (by decide) (by decide) hw
theorem ui_X8_keys_X8 : ∀ w ∈ u_ws RX8 TX8 20, w ∈ wsX8_keys := by decide +kernel
theorem m_X8_keys_Cond_fieldLink_RX8_47_PerfectPewModel_thrown_I_ : Cond.fieldLink RX8 47 "PerfectPewModel" "thrown" "I" ∈ wsX8_keys := by decide +kernel
theorem m_X8_keys_Cond_fieldLink_RX8_99_PerfectPewModel_many_I_ : Cond.fieldLink RX8 99 "PerfectPewModel" "many" "I" ∈ wsX8_keys := by decide +kernel
set_option maxRecDepth 100000 in
set_option maxHeartbeats 4000000 in
theorem c_X8_keys (l : Launch) (G : va_G) (cI cJ : ClassId) (ad : Nat → Nat) (a0 a1 a2 a3 a4 a5 a6 a7 a8 a9 a10 a11 a12 : Nat) (x_many : Int32) (x_built : Int32) (x_seed : Int32) (x_graphSeed : Int32) (x_bits : Int32) (x_bucketMany : Int32) (x_width : Int32) (x_thrown : Int32) (N : Nat) (x : (Int32 × Int32)) (hF0 : F_X8_keys N x_many x_thrown = some x) : kk_I l yX8_keys wsX8_keys 0 0 0 0 [.ref a0] G cI cJ ad [(a0, .inr (8, [.ref a1, .int x_many, .int x_built, .int x_seed, .int x_graphSeed, .int x_bits, .int x_bucketMany, .int x_width, .ref a2, .ref a3, .ref a4, .ref a5, .ref a6, .ref a7, .ref a8, .ref a9, .ref a10, .ref a11, .ref a12, .int x_thrown]))] x.1 [(a0, .inr (8, [.ref a1, .int x_many, .int x_built, .int x_seed, .int x_graphSeed, .int x_bits, .int x_bucketMany, .int x_width, .ref a2, .ref a3, .ref a4, .ref a5, .ref a6, .ref a7, .ref a8, .ref a9, .ref a10, .ref a11, .ref a12, .int x.2]))] := by
  refine kk_ofI (cc := cX8_keys) (maxL := 1) (by decide) rfl (Nat.le_of_ble_eq_true rfl) ?_
  intro p e s m below meth c A Q ls H locs hx hb hml hown hts hE hw hl hret
  have F : kk_at p m c cX8_keys 1 s _ wsX8_keys RX8 G cI cJ ad A := ⟨⟨hx, hb, hml, hown, hts⟩, hE⟩
  have hl : lv_has ls 1 [(0, .ref a0)] := hl
  unfold F_X8_keys at hF0
  refine lv_aload_n hx hb dX8_keys_0 rfl (lv_at hl 0 rfl) ?_
  refine lv_iconst (v := 0) hx hb dX8_keys_1 (by decide) ?_
  refine kk_put F hw ui_X8_keys_X8 tyX8 tyX8_ok nmX8 0 rfl rfl 19 (by decide) m_X8_keys_Cond_fieldLink_RX8_47_PerfectPewModel_thrown_I_ rfl rfl rfl (Nat.le_of_ble_eq_true rfl) dX8_keys_2 (fun H locs hw => ?_)
  have hw : kk_wd G A s.heap [(a0, .inr (8, [.ref a1, .int x_many, .int x_built, .int x_seed, .int x_graphSeed, .int x_bits, .int x_bucketMany, .int x_width, .ref a2, .ref a3, .ref a4, .ref a5, .ref a6, .ref a7, .ref a8, .ref a9, .ref a10, .ref a11, .ref a12, .int 0]))] H locs := hw
  refine lv_aload_n hx hb dX8_keys_5 rfl (lv_at hl 0 rfl) ?_
  refine kk_get (T := TX8) F hw ui_X8_keys_X8 0 rfl rfl 1 (by decide) m_X8_keys_Cond_fieldLink_RX8_99_PerfectPewModel_many_I_ rfl dX8_keys_6 ?_
  have hy := Option.some.inj hF0
  subst hy
  exact hret dX8_keys_9 (by decide) (by decide) hw
theorem ui_X8_has_X8 : ∀ w ∈ u_ws RX8 TX8 20, w ∈ wsX8_has := by decide +kernel
theorem m_X8_has_Cond_fieldLink_RX8_47_PerfectPewModel_thrown_I_ : Cond.fieldLink RX8 47 "PerfectPewModel" "thrown" "I" ∈ wsX8_has := by decide +kernel
theorem m_X8_has_Cond_constant_RX8_106_99999_ : Cond.constant RX8 106 (99999) ∈ wsX8_has := by decide +kernel
set_option maxRecDepth 100000 in
set_option maxHeartbeats 4000000 in
theorem c_X8_has (l : Launch) (G : va_G) (cI cJ : ClassId) (ad : Nat → Nat) (a0 a1 a2 a3 a4 a5 a6 a7 a8 a9 a10 a11 a12 : Nat) (x_many : Int32) (x_built : Int32) (x_seed : Int32) (x_graphSeed : Int32) (x_bits : Int32) (x_bucketMany : Int32) (x_width : Int32) (x_thrown : Int32) (f_keys : Nat → Int32) (i1 : Int32) (N : Nat) (x : (Int32 × Int32)) (hF0 : F_X8_has N x_many x_thrown f_keys i1 = some x) : kk_I l yX8_has wsX8_has 2 0 0 44 [.ref a0, .int i1] G cI cJ ad [(a0, .inr (8, [.ref a1, .int x_many, .int x_built, .int x_seed, .int x_graphSeed, .int x_bits, .int x_bucketMany, .int x_width, .ref a2, .ref a3, .ref a4, .ref a5, .ref a6, .ref a7, .ref a8, .ref a9, .ref a10, .ref a11, .ref a12, .int x_thrown])), (a1, .inl (cI, 120, .inl f_keys))] x.1 [(a0, .inr (8, [.ref a1, .int x_many, .int x_built, .int x_seed, .int x_graphSeed, .int x_bits, .int x_bucketMany, .int x_width, .ref a2, .ref a3, .ref a4, .ref a5, .ref a6, .ref a7, .ref a8, .ref a9, .ref a10, .ref a11, .ref a12, .int x.2])), (a1, .inl (cI, 120, .inl f_keys))] := by
  refine kk_ofZ (cc := cX8_has) (maxL := 2) (by decide) rfl (Nat.le_of_ble_eq_true rfl) ?_
  intro p e s m below meth c A Q ls H locs hx hb hml hown hts hE hw hl hret
  have F : kk_at p m c cX8_has 2 s _ wsX8_has RX8 G cI cJ ad A := ⟨⟨hx, hb, hml, hown, hts⟩, hE⟩
  have hl : lv_has ls 2 [(0, .ref a0), (1, .int i1)] := hl
  unfold F_X8_has at hF0
  refine lv_aload_n hx hb dX8_has_0 rfl (lv_at hl 0 rfl) ?_
  refine lv_iconst (v := 0) hx hb dX8_has_1 (by decide) ?_
  refine kk_put F hw ui_X8_has_X8 tyX8 tyX8_ok nmX8 0 rfl rfl 19 (by decide) m_X8_has_Cond_fieldLink_RX8_47_PerfectPewModel_thrown_I_ rfl rfl rfl (Nat.le_of_ble_eq_true rfl) dX8_has_2 (fun H locs hw => ?_)
  have hw : kk_wd G A s.heap [(a0, .inr (8, [.ref a1, .int x_many, .int x_built, .int x_seed, .int x_graphSeed, .int x_bits, .int x_bucketMany, .int x_width, .ref a2, .ref a3, .ref a4, .ref a5, .ref a6, .ref a7, .ref a8, .ref a9, .ref a10, .ref a11, .ref a12, .int 0])), (a1, .inl (cI, 120, .inl f_keys))] H locs := hw
  refine lv_iload_n hx hb dX8_has_5 rfl (lv_at hl 1 rfl) ?_
  refine lv_iconst (v := 0) hx hb dX8_has_6 (by decide) ?_
  refine lv_ldc hx hb hown (hts _ m_X8_has_Cond_constant_RX8_106_99999_) dX8_has_7 ?_
  obtain ⟨v1, ev1, hF0⟩ := kk_bind hF0
  refine kk_callI 0 0 hw (kk_runS (As := [.int i1, .int 0, .int 99999]) (rest := []) F hw hl.1 (c_X8_in l G cI cJ ad i1 0 99999 N v1 ev1 H.size) gX8_has_X8_in rfl md_X8_in ⟨Nat.le_of_ble_eq_true rfl, Nat.le_of_ble_eq_true rfl⟩ ⟨Nat.le_of_ble_eq_true rfl, Nat.le_of_ble_eq_true rfl⟩ rfl (Nat.le_of_ble_eq_true rfl) dX8_has_9) ⟨rfl, rfl⟩ [] (by decide) rfl rfl (fun H locs hw => ?_)
  refine lv_if_ne (tgt := 23) hx hb dX8_has_12 (by decide) (fun c2 => ?_) (fun c2 => ?_)
  · have hF0 := (if_neg c2).symm.trans hF0
    refine lv_aload_n hx hb dX8_has_23 rfl (lv_at hl 0 rfl) ?_
    refine lv_iload_n hx hb dX8_has_24 rfl (lv_at hl 1 rfl) ?_
    obtain ⟨v3, ev3, hF0⟩ := kk_bind hF0
    refine kk_callI 0 0 hw (kk_runV (As := [.int i1]) (rest := []) F hw hl.1 (c_X8_is l G cI cJ ad a0 a1 a2 a3 a4 a5 a6 a7 a8 a9 a10 a11 a12 x_many x_built x_seed x_graphSeed x_bits x_bucketMany x_width 0 f_keys i1 N v3 ev3 H.size) gX8_has_X8_is rfl ⟨rfl, md_X8_is⟩ ⟨Nat.le_of_ble_eq_true rfl, Nat.le_of_ble_eq_true rfl⟩ ⟨Nat.le_of_ble_eq_true rfl, Nat.le_of_ble_eq_true rfl⟩ 0 8 rfl rfl rfl rfl (Nat.le_of_ble_eq_true rfl) dX8_has_25) ⟨rfl, rfl⟩ [0, 1] (by decide) rfl rfl (fun H locs hw => ?_)
    have hw : kk_wd G A s.heap [(a0, .inr (8, [.ref a1, .int x_many, .int x_built, .int x_seed, .int x_graphSeed, .int x_bits, .int x_bucketMany, .int x_width, .ref a2, .ref a3, .ref a4, .ref a5, .ref a6, .ref a7, .ref a8, .ref a9, .ref a10, .ref a11, .ref a12, .int 0])), (a1, .inl (cI, 120, .inl f_keys))] H locs := hw
    obtain ⟨u4, eu4, hF0⟩ := kk_bind hF0
    have hy := Option.some.inj hF0
    subst hy
    exact hret dX8_has_28 (by decide) (by decide) (kk_bl_ok eu4) hw
  · have hF0 := (if_pos c2).symm.trans hF0
    refine lv_aload_n hx hb dX8_has_15 rfl (lv_at hl 0 rfl) ?_
    refine lv_iconst (v := 1) hx hb dX8_has_16 (by decide) ?_
    obtain ⟨v5, ev5, hF0⟩ := kk_bind hF0
    refine kk_callI 0 0 hw (kk_runV (As := [.int 1]) (rest := []) F hw hl.1 (c_X8_fails l G cI cJ ad a0 a1 a2 a3 a4 a5 a6 a7 a8 a9 a10 a11 a12 x_many x_built x_seed x_graphSeed x_bits x_bucketMany x_width 0 1 N v5 ev5 H.size) gX8_has_X8_fails rfl ⟨rfl, md_X8_fails⟩ ⟨Nat.le_of_ble_eq_true rfl, Nat.le_of_ble_eq_true rfl⟩ ⟨Nat.le_of_ble_eq_true rfl, Nat.le_of_ble_eq_true rfl⟩ 0 8 rfl rfl rfl rfl (Nat.le_of_ble_eq_true rfl) dX8_has_17) ⟨rfl, rfl⟩ [0] (by decide) rfl rfl (fun H locs hw => ?_)
    have hw : kk_wd G A s.heap [(a0, .inr (8, [.ref a1, .int x_many, .int x_built, .int x_seed, .int x_graphSeed, .int x_bits, .int x_bucketMany, .int x_width, .ref a2, .ref a3, .ref a4, .ref a5, .ref a6, .ref a7, .ref a8, .ref a9, .ref a10, .ref a11, .ref a12, .int v5.2])), (a1, .inl (cI, 120, .inl f_keys))] H locs := hw
    refine lv_pop hx hb dX8_has_20 rfl ?_
    refine lv_iconst (v := 0) hx hb dX8_has_21 (by decide) ?_
    have hy := Option.some.inj hF0
    subst hy
    exact hret dX8_has_22 (by decide) (by decide) (Or.inl rfl) hw
theorem ui_X8_keyAt_X8 : ∀ w ∈ u_ws RX8 TX8 20, w ∈ wsX8_keyAt := by decide +kernel
theorem m_X8_keyAt_Cond_fieldLink_RX8_47_PerfectPewModel_thrown_I_ : Cond.fieldLink RX8 47 "PerfectPewModel" "thrown" "I" ∈ wsX8_keyAt := by decide +kernel
theorem m_X8_keyAt_Cond_fieldLink_RX8_99_PerfectPewModel_many_I_ : Cond.fieldLink RX8 99 "PerfectPewModel" "many" "I" ∈ wsX8_keyAt := by decide +kernel
theorem m_X8_keyAt_Cond_fieldLink_RX8_7_PerfectPewModel_keys_I_ : Cond.fieldLink RX8 7 "PerfectPewModel" "keys" "[I" ∈ wsX8_keyAt := by decide +kernel
set_option maxRecDepth 100000 in
set_option maxHeartbeats 4000000 in
theorem c_X8_keyAt (l : Launch) (G : va_G) (cI cJ : ClassId) (ad : Nat → Nat) (a0 a1 a2 a3 a4 a5 a6 a7 a8 a9 a10 a11 a12 : Nat) (x_many : Int32) (x_built : Int32) (x_seed : Int32) (x_graphSeed : Int32) (x_bits : Int32) (x_bucketMany : Int32) (x_width : Int32) (x_thrown : Int32) (f_keys : Nat → Int32) (i1 : Int32) (N : Nat) (x : (Int32 × Int32)) (hF0 : F_X8_keyAt N x_many x_thrown f_keys i1 = some x) : kk_I l yX8_keyAt wsX8_keyAt 1 0 0 22 [.ref a0, .int i1] G cI cJ ad [(a0, .inr (8, [.ref a1, .int x_many, .int x_built, .int x_seed, .int x_graphSeed, .int x_bits, .int x_bucketMany, .int x_width, .ref a2, .ref a3, .ref a4, .ref a5, .ref a6, .ref a7, .ref a8, .ref a9, .ref a10, .ref a11, .ref a12, .int x_thrown])), (a1, .inl (cI, 120, .inl f_keys))] x.1 [(a0, .inr (8, [.ref a1, .int x_many, .int x_built, .int x_seed, .int x_graphSeed, .int x_bits, .int x_bucketMany, .int x_width, .ref a2, .ref a3, .ref a4, .ref a5, .ref a6, .ref a7, .ref a8, .ref a9, .ref a10, .ref a11, .ref a12, .int x.2])), (a1, .inl (cI, 120, .inl f_keys))] := by
  refine kk_ofI (cc := cX8_keyAt) (maxL := 2) (by decide) rfl (Nat.le_of_ble_eq_true rfl) ?_
  intro p e s m below meth c A Q ls H locs hx hb hml hown hts hE hw hl hret
  have F : kk_at p m c cX8_keyAt 2 s _ wsX8_keyAt RX8 G cI cJ ad A := ⟨⟨hx, hb, hml, hown, hts⟩, hE⟩
  have hl : lv_has ls 2 [(0, .ref a0), (1, .int i1)] := hl
  unfold F_X8_keyAt at hF0
  have hJ1 : ∀ (x_thrown_1 : Int32) (s0_1 : Int32), J_X8_keyAt_33 N x_thrown_1 s0_1 = some x → ∀ (H : Heap) (locs : List Loc) (ls : Array Slot), kk_wd G A s.heap [(a0, .inr (8, [.ref a1, .int x_many, .int x_built, .int x_seed, .int x_graphSeed, .int x_bits, .int x_bucketMany, .int x_width, .ref a2, .ref a3, .ref a4, .ref a5, .ref a6, .ref a7, .ref a8, .ref a9, .ref a10, .ref a11, .ref a12, .int x_thrown_1])), (a1, .inl (cI, 120, .inl f_keys))] H locs → lv_has ls 2 [] → W p l e (kk_rm 1 0 0 22) s m ([.ref a0, .int i1] : List Value).toArray below meth c H locs 0 0 Q (F0 m 33 ls [.int s0_1]) := by
    intro x_thrown_1 s0_1 hF0 H locs ls hw hl
    unfold J_X8_keyAt_33 at hF0
    have hy := Option.some.inj hF0
    subst hy
    exact hret dX8_keyAt_33 (by decide) (by decide) hw
  refine lv_aload_n hx hb dX8_keyAt_0 rfl (lv_at hl 0 rfl) ?_
  refine lv_iconst (v := 0) hx hb dX8_keyAt_1 (by decide) ?_
  refine kk_put F hw ui_X8_keyAt_X8 tyX8 tyX8_ok nmX8 0 rfl rfl 19 (by decide) m_X8_keyAt_Cond_fieldLink_RX8_47_PerfectPewModel_thrown_I_ rfl rfl rfl (Nat.le_of_ble_eq_true rfl) dX8_keyAt_2 (fun H locs hw => ?_)
  have hw : kk_wd G A s.heap [(a0, .inr (8, [.ref a1, .int x_many, .int x_built, .int x_seed, .int x_graphSeed, .int x_bits, .int x_bucketMany, .int x_width, .ref a2, .ref a3, .ref a4, .ref a5, .ref a6, .ref a7, .ref a8, .ref a9, .ref a10, .ref a11, .ref a12, .int 0])), (a1, .inl (cI, 120, .inl f_keys))] H locs := hw
  refine lv_iload_n hx hb dX8_keyAt_5 rfl (lv_at hl 1 rfl) ?_
  refine lv_iconst (v := 0) hx hb dX8_keyAt_6 (by decide) ?_
  refine lv_aload_n hx hb dX8_keyAt_7 rfl (lv_at hl 0 rfl) ?_
  refine kk_get (T := TX8) F hw ui_X8_keyAt_X8 0 rfl rfl 1 (by decide) m_X8_keyAt_Cond_fieldLink_RX8_99_PerfectPewModel_many_I_ rfl dX8_keyAt_8 ?_
  refine lv_iconst (v := 1) hx hb dX8_keyAt_11 (by decide) ?_
  refine lv_isub hx hb dX8_keyAt_12 ?_
  obtain ⟨v2, ev2, hF0⟩ := kk_bind hF0
  refine kk_callI 0 0 hw (kk_runS (As := [.int i1, .int 0, .int (x_many - 1)]) (rest := []) F hw hl.1 (c_X8_in l G cI cJ ad i1 0 (x_many - 1) N v2 ev2 H.size) gX8_keyAt_X8_in rfl md_X8_in ⟨Nat.le_of_ble_eq_true rfl, Nat.le_of_ble_eq_true rfl⟩ ⟨Nat.le_of_ble_eq_true rfl, Nat.le_of_ble_eq_true rfl⟩ rfl (Nat.le_of_ble_eq_true rfl) dX8_keyAt_13) ⟨rfl, rfl⟩ [] (by decide) rfl rfl (fun H locs hw => ?_)
  refine lv_if_eq (tgt := 28) hx hb dX8_keyAt_16 (by decide) (fun c3 => ?_) (fun c3 => ?_)
  · have hF0 := (if_pos c3).symm.trans hF0
    refine lv_aload_n hx hb dX8_keyAt_28 rfl (lv_at hl 0 rfl) ?_
    refine lv_iconst (v := 1) hx hb dX8_keyAt_29 (by decide) ?_
    obtain ⟨v4, ev4, hF0⟩ := kk_bind hF0
    refine kk_callI 0 0 hw (kk_runV (As := [.int 1]) (rest := []) F hw hl.1 (c_X8_fails l G cI cJ ad a0 a1 a2 a3 a4 a5 a6 a7 a8 a9 a10 a11 a12 x_many x_built x_seed x_graphSeed x_bits x_bucketMany x_width 0 1 N v4 ev4 H.size) gX8_keyAt_X8_fails rfl ⟨rfl, md_X8_fails⟩ ⟨Nat.le_of_ble_eq_true rfl, Nat.le_of_ble_eq_true rfl⟩ ⟨Nat.le_of_ble_eq_true rfl, Nat.le_of_ble_eq_true rfl⟩ 0 8 rfl rfl rfl rfl (Nat.le_of_ble_eq_true rfl) dX8_keyAt_30) ⟨rfl, rfl⟩ [0] (by decide) rfl rfl (fun H locs hw => ?_)
    have hw : kk_wd G A s.heap [(a0, .inr (8, [.ref a1, .int x_many, .int x_built, .int x_seed, .int x_graphSeed, .int x_bits, .int x_bucketMany, .int x_width, .ref a2, .ref a3, .ref a4, .ref a5, .ref a6, .ref a7, .ref a8, .ref a9, .ref a10, .ref a11, .ref a12, .int v4.2])), (a1, .inl (cI, 120, .inl f_keys))] H locs := hw
    exact hJ1 v4.2 v4.1 hF0 _ _ _ hw (lv_sub hl [] rfl)
  · have hF0 := (if_neg c3).symm.trans hF0
    refine lv_aload_n hx hb dX8_keyAt_19 rfl (lv_at hl 0 rfl) ?_
    refine kk_get (T := TX8) F hw ui_X8_keyAt_X8 0 rfl rfl 0 (by decide) m_X8_keyAt_Cond_fieldLink_RX8_7_PerfectPewModel_keys_I_ rfl dX8_keyAt_20 ?_
    refine lv_iload_n hx hb dX8_keyAt_23 rfl (lv_at hl 1 rfl) ?_
    obtain ⟨v5, ev5, hF0⟩ := kk_bind hF0
    refine kk_iald F hw 1 rfl ev5 dX8_keyAt_24 ?_
    refine lv_goto (tgt := 33) hx hb dX8_keyAt_25 (by decide) ?_
    exact hJ1 0 v5 hF0 _ _ _ hw (lv_sub hl [] rfl)
set_option maxRecDepth 100000 in
set_option maxHeartbeats 4000000 in
theorem c_X8_stepOf (l : Launch) (G : va_G) (cI cJ : ClassId) (ad : Nat → Nat) (i0 : Int32) (i1 : Int32) (i2 : Int32) (N : Nat) (x : Int32) (hF0 : F_X8_stepOf N i0 i1 i2 = some x) : kk_I l yX8_stepOf wsX8_stepOf 2 0 0 42 [.int i0, .int i1, .int i2] G cI cJ ad [] x [] := by
  refine kk_ofI (cc := cX8_stepOf) (maxL := 3) (by decide) rfl (Nat.le_of_ble_eq_true rfl) ?_
  intro p e s m below meth c A Q ls H locs hx hb hml hown hts hE hw hl hret
  have F : kk_at p m c cX8_stepOf 3 s _ wsX8_stepOf RX8 G cI cJ ad A := ⟨⟨hx, hb, hml, hown, hts⟩, hE⟩
  have hl : lv_has ls 3 [(0, .int i0), (1, .int i1), (2, .int i2)] := hl
  unfold F_X8_stepOf at hF0
  have hJ1 : ∀ (s0_1 : Int32), J_X8_stepOf_21 N s0_1 = some x → ∀ (H : Heap) (locs : List Loc) (ls : Array Slot), kk_wd G A s.heap [] H locs → lv_has ls 3 [] → W p l e (kk_rm 2 0 0 42) s m ([.int i0, .int i1, .int i2] : List Value).toArray below meth c H locs 0 0 Q (F0 m 21 ls [.int s0_1]) := by
    intro s0_1 hF0 H locs ls hw hl
    unfold J_X8_stepOf_21 at hF0
    have hy := Option.some.inj hF0
    subst hy
    exact hret dX8_stepOf_21 (by decide) (by decide) hw
  refine lv_iload_n hx hb dX8_stepOf_0 rfl (lv_at hl 2 rfl) ?_
  refine lv_iconst (v := 1) hx hb dX8_stepOf_1 (by decide) ?_
  refine lv_icmp_ne (tgt := 9) hx hb dX8_stepOf_2 (by decide) (fun c2 => ?_) (fun c2 => ?_)
  · have hF0 := (if_neg c2).symm.trans hF0
    refine lv_iconst (v := 1) hx hb dX8_stepOf_9 (by decide) ?_
    refine lv_iconst (v := 2) hx hb dX8_stepOf_10 (by decide) ?_
    refine lv_iload_n hx hb dX8_stepOf_11 rfl (lv_at hl 0 rfl) ?_
    refine lv_iload_n hx hb dX8_stepOf_12 rfl (lv_at hl 1 rfl) ?_
    obtain ⟨v3, ev3, hF0⟩ := kk_bind hF0
    refine kk_callI 0 0 hw (kk_runS (As := [.int 2, .int i0, .int i1]) (rest := [.int 1]) F hw hl.1 (c_X8_hash l G cI cJ ad 2 i0 i1 N v3 ev3 H.size) gX8_stepOf_X8_hash rfl md_X8_hash ⟨Nat.le_of_ble_eq_true rfl, Nat.le_of_ble_eq_true rfl⟩ ⟨Nat.le_of_ble_eq_true rfl, Nat.le_of_ble_eq_true rfl⟩ rfl (Nat.le_of_ble_eq_true rfl) dX8_stepOf_13) ⟨rfl, rfl⟩ [] (by decide) rfl rfl (fun H locs hw => ?_)
    refine lv_iload_n hx hb dX8_stepOf_16 rfl (lv_at hl 2 rfl) ?_
    refine lv_iconst (v := 1) hx hb dX8_stepOf_17 (by decide) ?_
    refine lv_isub hx hb dX8_stepOf_18 ?_
    obtain ⟨u4, eu4, hF0⟩ := kk_bind hF0
    refine lv_irem hx hb dX8_stepOf_19 (kk_nz_ok eu4) ?_
    refine lv_iadd hx hb dX8_stepOf_20 ?_
    exact hJ1 (1 + (kk_rem v3 (i2 - 1))) hF0 _ _ _ hw (lv_sub hl [] rfl)
  · have hF0 := (if_pos c2).symm.trans hF0
    refine lv_iconst (v := 1) hx hb dX8_stepOf_5 (by decide) ?_
    refine lv_goto (tgt := 21) hx hb dX8_stepOf_6 (by decide) ?_
    exact hJ1 1 hF0 _ _ _ hw (lv_sub hl [] rfl)
set_option maxRecDepth 100000 in
set_option maxHeartbeats 4000000 in
theorem c_X8_place (l : Launch) (G : va_G) (cI cJ : ClassId) (ad : Nat → Nat) (i0 : Int32) (i1 : Int32) (i2 : Int32) (i3 : Int32) (N : Nat) (x : Int32) (hF0 : F_X8_place N i0 i1 i2 i3 = some x) : kk_I l yX8_place wsX8_place 3 0 0 64 [.int i0, .int i1, .int i2, .int i3] G cI cJ ad [] x [] := by
  refine kk_ofI (cc := cX8_place) (maxL := 4) (by decide) rfl (Nat.le_of_ble_eq_true rfl) ?_
  intro p e s m below meth c A Q ls H locs hx hb hml hown hts hE hw hl hret
  have F : kk_at p m c cX8_place 4 s _ wsX8_place RX8 G cI cJ ad A := ⟨⟨hx, hb, hml, hown, hts⟩, hE⟩
  have hl : lv_has ls 4 [(0, .int i0), (1, .int i1), (2, .int i2), (3, .int i3)] := hl
  unfold F_X8_place at hF0
  refine lv_iconst (v := 1) hx hb dX8_place_0 (by decide) ?_
  refine lv_iload_n hx hb dX8_place_1 rfl (lv_at hl 0 rfl) ?_
  refine lv_iload_n hx hb dX8_place_2 rfl (lv_at hl 1 rfl) ?_
  obtain ⟨v1, ev1, hF0⟩ := kk_bind hF0
  refine kk_callI 0 0 hw (kk_runS (As := [.int 1, .int i0, .int i1]) (rest := []) F hw hl.1 (c_X8_hash l G cI cJ ad 1 i0 i1 N v1 ev1 H.size) gX8_place_X8_hash rfl md_X8_hash ⟨Nat.le_of_ble_eq_true rfl, Nat.le_of_ble_eq_true rfl⟩ ⟨Nat.le_of_ble_eq_true rfl, Nat.le_of_ble_eq_true rfl⟩ rfl (Nat.le_of_ble_eq_true rfl) dX8_place_3) ⟨rfl, rfl⟩ [] (by decide) rfl rfl (fun H locs hw => ?_)
  refine lv_i2l hx hb dX8_place_6 rfl ?_
  refine lv_iload_n hx hb dX8_place_7 rfl (lv_at hl 2 rfl) ?_
  refine lv_i2l hx hb dX8_place_8 rfl ?_
  refine lv_iload_n hx hb dX8_place_9 rfl (lv_at hl 0 rfl) ?_
  refine lv_iload_n hx hb dX8_place_10 rfl (lv_at hl 1 rfl) ?_
  refine lv_iload_n hx hb dX8_place_11 rfl (lv_at hl 3 rfl) ?_
  obtain ⟨v2, ev2, hF0⟩ := kk_bind hF0
  refine kk_callI 0 0 hw (kk_runS (As := [.int i0, .int i1, .int i3]) (rest := [.long (Int32.toInt64 i2), .long (Int32.toInt64 v1)]) F hw hl.1 (c_X8_stepOf l G cI cJ ad i0 i1 i3 N v2 ev2 H.size) gX8_place_X8_stepOf rfl md_X8_stepOf ⟨Nat.le_of_ble_eq_true rfl, Nat.le_of_ble_eq_true rfl⟩ ⟨Nat.le_of_ble_eq_true rfl, Nat.le_of_ble_eq_true rfl⟩ rfl (Nat.le_of_ble_eq_true rfl) dX8_place_12) ⟨rfl, rfl⟩ [] (by decide) rfl rfl (fun H locs hw => ?_)
  refine lv_i2l hx hb dX8_place_15 rfl ?_
  refine lv_lmul hx hb dX8_place_16 ?_
  refine lv_ladd hx hb dX8_place_17 ?_
  refine lv_iload_n hx hb dX8_place_18 rfl (lv_at hl 3 rfl) ?_
  refine lv_i2l hx hb dX8_place_19 rfl ?_
  obtain ⟨u3, eu3, hF0⟩ := kk_bind hF0
  refine lv_lrem hx hb dX8_place_20 (kk_nzL_ok eu3) ?_
  refine lv_l2i hx hb dX8_place_21 rfl ?_
  have hy := Option.some.inj hF0
  subst hy
  exact hret dX8_place_22 (by decide) (by decide) hw
theorem ui_X8_gather_X8 : ∀ w ∈ u_ws RX8 TX8 20, w ∈ wsX8_gather := by decide +kernel
theorem m_X8_gather_Cond_fieldLink_RX8_99_PerfectPewModel_many_I_ : Cond.fieldLink RX8 99 "PerfectPewModel" "many" "I" ∈ wsX8_gather := by decide +kernel
theorem m_X8_gather_Cond_fieldLink_RX8_7_PerfectPewModel_keys_I_ : Cond.fieldLink RX8 7 "PerfectPewModel" "keys" "[I" ∈ wsX8_gather := by decide +kernel
theorem m_X8_gather_Cond_fieldLink_RX8_25_PerfectPewModel_some_I_ : Cond.fieldLink RX8 25 "PerfectPewModel" "some" "[I" ∈ wsX8_gather := by decide +kernel
set_option maxRecDepth 100000 in
set_option maxHeartbeats 4000000 in
theorem c_X8_gather (l : Launch) (G : va_G) (cI cJ : ClassId) (ad : Nat → Nat) (a0 a1 a2 a3 a4 a5 a6 a7 a8 a9 a10 a11 a12 : Nat) (x_many : Int32) (x_built : Int32) (x_seed : Int32) (x_graphSeed : Int32) (x_bits : Int32) (x_bucketMany : Int32) (x_width : Int32) (x_thrown : Int32) (f_keys : Nat → Int32) (f_some : Nat → Int32) (i1 : Int32) (i2 : Int32) (i3 : Int32) (N : Nat) (x : (Int32 × (Nat → Int32))) (hF0 : F_X8_gather N x_many f_keys f_some i1 i2 i3 = some x) : kk_I l yX8_gather wsX8_gather 2 0 0 42 [.ref a0, .int i1, .int i2, .int i3] G cI cJ ad [(a0, .inr (8, [.ref a1, .int x_many, .int x_built, .int x_seed, .int x_graphSeed, .int x_bits, .int x_bucketMany, .int x_width, .ref a2, .ref a3, .ref a4, .ref a5, .ref a6, .ref a7, .ref a8, .ref a9, .ref a10, .ref a11, .ref a12, .int x_thrown])), (a1, .inl (cI, 120, .inl f_keys)), (a6, .inl (cI, 120, .inl f_some))] x.1 [(a0, .inr (8, [.ref a1, .int x_many, .int x_built, .int x_seed, .int x_graphSeed, .int x_bits, .int x_bucketMany, .int x_width, .ref a2, .ref a3, .ref a4, .ref a5, .ref a6, .ref a7, .ref a8, .ref a9, .ref a10, .ref a11, .ref a12, .int x_thrown])), (a1, .inl (cI, 120, .inl f_keys)), (a6, .inl (cI, 120, .inl x.2))] := by
  refine kk_ofI (cc := cX8_gather) (maxL := 6) (by decide) rfl (Nat.le_of_ble_eq_true rfl) ?_
  intro p e s m below meth c A Q ls H locs hx hb hml hown hts hE hw hl hret
  have F : kk_at p m c cX8_gather 6 s _ wsX8_gather RX8 G cI cJ ad A := ⟨⟨hx, hb, hml, hown, hts⟩, hE⟩
  have hl : lv_has ls 6 [(0, .ref a0), (1, .int i1), (2, .int i2), (3, .int i3)] := hl
  unfold F_X8_gather at hF0
  have hJ1 : ∀ (f_some_1 : Nat → Int32) (i4_1 : Int32), J_X8_gather_56 N f_some_1 i4_1 = some x → ∀ (H : Heap) (locs : List Loc) (ls : Array Slot), kk_wd G A s.heap [(a0, .inr (8, [.ref a1, .int x_many, .int x_built, .int x_seed, .int x_graphSeed, .int x_bits, .int x_bucketMany, .int x_width, .ref a2, .ref a3, .ref a4, .ref a5, .ref a6, .ref a7, .ref a8, .ref a9, .ref a10, .ref a11, .ref a12, .int x_thrown])), (a1, .inl (cI, 120, .inl f_keys)), (a6, .inl (cI, 120, .inl f_some_1))] H locs → lv_has ls 6 [(4, .int i4_1)] → W p l e (kk_rm 2 0 0 42) s m ([.ref a0, .int i1, .int i2, .int i3] : List Value).toArray below meth c H locs 0 0 Q (F0 m 56 ls []) := by
    intro f_some_1 i4_1 hF0 H locs ls hw hl
    unfold J_X8_gather_56 at hF0
    refine lv_iload hx hb dX8_gather_56 (lv_at hl 0 rfl) ?_
    have hy := Option.some.inj hF0
    subst hy
    exact hret dX8_gather_58 (by decide) (by decide) hw
  refine lv_iconst (v := 0) hx hb dX8_gather_0 (by decide) ?_
  refine lv_istore (lv' := [(4, .int 0), (0, .ref a0), (1, .int i1), (2, .int i2), (3, .int i3)]) hx hb dX8_gather_1 hl (by decide) rfl (fun ls hl => ?_)
  refine lv_iconst (v := 0) hx hb dX8_gather_3 (by decide) ?_
  refine lv_istore (lv' := [(5, .int 0), (4, .int 0), (0, .ref a0), (1, .int i1), (2, .int i2), (3, .int i3)]) hx hb dX8_gather_4 hl (by decide) rfl (fun ls hl => ?_)
  obtain ⟨z2, hz3, hF0⟩ := kk_bind hF0
  have hL3 : ∀ (n3 : Nat) (f_some_3 : Nat → Int32) (i4_3 : Int32) (i5_3 : Int32), kk_iter (fun (σ : ((Nat → Int32) × Int32 × Int32)) => L_X8_gather_6 N x_many f_keys i1 i2 i3 σ.1 σ.2.1 σ.2.2) n3 (f_some_3, i4_3, i5_3) = some z2 → ∀ (H : Heap) (locs : List Loc) (ls : Array Slot), kk_wd G A s.heap [(a0, .inr (8, [.ref a1, .int x_many, .int x_built, .int x_seed, .int x_graphSeed, .int x_bits, .int x_bucketMany, .int x_width, .ref a2, .ref a3, .ref a4, .ref a5, .ref a6, .ref a7, .ref a8, .ref a9, .ref a10, .ref a11, .ref a12, .int x_thrown])), (a1, .inl (cI, 120, .inl f_keys)), (a6, .inl (cI, 120, .inl f_some_3))] H locs → lv_has ls 6 [(0, .ref a0), (1, .int i1), (2, .int i2), (3, .int i3), (4, .int i4_3), (5, .int i5_3)] → W p l e (kk_rm 2 0 0 42) s m ([.ref a0, .int i1, .int i2, .int i3] : List Value).toArray below meth c H locs 0 0 Q (F0 m 6 ls []) := by
    intro n3
    induction n3 with
    | zero => intro f_some_3 i4_3 i5_3 h; exact kk_iter0 h
    | succ n3 ih3 =>
      intro f_some_3 i4_3 i5_3 hq H locs ls hw hl
      obtain ⟨y3, hF1, hI1⟩ := kk_iterS hq
      have hF1 : L_X8_gather_6 N x_many f_keys i1 i2 i3 f_some_3 i4_3 i5_3 = some y3 := hF1
      unfold L_X8_gather_6 at hF1
      have hJ4 : ∀ (f_some_4 : Nat → Int32) (i4_4 : Int32) (i5_4 : Int32), J_X8_gather_50 N f_some_4 i4_4 i5_4 = some y3 → ∀ (H : Heap) (locs : List Loc) (ls : Array Slot), kk_wd G A s.heap [(a0, .inr (8, [.ref a1, .int x_many, .int x_built, .int x_seed, .int x_graphSeed, .int x_bits, .int x_bucketMany, .int x_width, .ref a2, .ref a3, .ref a4, .ref a5, .ref a6, .ref a7, .ref a8, .ref a9, .ref a10, .ref a11, .ref a12, .int x_thrown])), (a1, .inl (cI, 120, .inl f_keys)), (a6, .inl (cI, 120, .inl f_some_4))] H locs → lv_has ls 6 [(0, .ref a0), (1, .int i1), (2, .int i2), (3, .int i3), (4, .int i4_4), (5, .int i5_4)] → W p l e (kk_rm 2 0 0 42) s m ([.ref a0, .int i1, .int i2, .int i3] : List Value).toArray below meth c H locs 0 0 Q (F0 m 50 ls []) := by
        intro f_some_4 i4_4 i5_4 hF1 H locs ls hw hl
        unfold J_X8_gather_50 at hF1
        refine lv_iinc (v := (i5_4 + 1)) (lv' := [(5, .int (i5_4 + 1)), (0, .ref a0), (1, .int i1), (2, .int i2), (3, .int i3), (4, .int i4_4)]) hx hb dX8_gather_50 hl (k := 5) rfl rfl (by decide) rfl (fun ls hl => ?_)
        refine lv_goto (tgt := 6) hx hb dX8_gather_53 (by decide) ?_
        have hy := Option.some.inj hF1
        subst hy
        exact ih3 f_some_4 i4_4 (i5_4 + 1) hI1 _ _ _ hw (lv_sub hl [1, 2, 3, 4, 5, 0] rfl)
      refine lv_iload hx hb dX8_gather_6 (lv_at hl 5 rfl) ?_
      refine lv_aload_n hx hb dX8_gather_8 rfl (lv_at hl 0 rfl) ?_
      refine kk_get (T := TX8) F hw ui_X8_gather_X8 0 rfl rfl 1 (by decide) m_X8_gather_Cond_fieldLink_RX8_99_PerfectPewModel_many_I_ rfl dX8_gather_9 ?_
      refine lv_icmp_ge (tgt := 56) hx hb dX8_gather_12 (by decide) (fun c5 => ?_) (fun c5 => ?_)
      · have hF1 := (if_pos c5).symm.trans hF1
        have hy := Option.some.inj hF1
        subst hy
        have hz := Option.some.inj hI1
        subst hz
        exact hJ1 f_some_3 i4_3 hF0 _ _ _ hw (lv_sub hl [4] rfl)
      · have hF1 := (if_neg c5).symm.trans hF1
        refine lv_iconst (v := 0) hx hb dX8_gather_15 (by decide) ?_
        refine lv_aload_n hx hb dX8_gather_16 rfl (lv_at hl 0 rfl) ?_
        refine kk_get (T := TX8) F hw ui_X8_gather_X8 0 rfl rfl 0 (by decide) m_X8_gather_Cond_fieldLink_RX8_7_PerfectPewModel_keys_I_ rfl dX8_gather_17 ?_
        refine lv_iload hx hb dX8_gather_20 (lv_at hl 5 rfl) ?_
        obtain ⟨v6, ev6, hF1⟩ := kk_bind hF1
        refine kk_iald F hw 1 rfl ev6 dX8_gather_22 ?_
        refine lv_iload_n hx hb dX8_gather_23 rfl (lv_at hl 2 rfl) ?_
        obtain ⟨v7, ev7, hF1⟩ := kk_bind hF1
        refine kk_callI 0 0 hw (kk_runS (As := [.int 0, .int v6, .int i2]) (rest := []) F hw hl.1 (c_X8_hash l G cI cJ ad 0 v6 i2 N v7 ev7 H.size) gX8_gather_X8_hash rfl md_X8_hash ⟨Nat.le_of_ble_eq_true rfl, Nat.le_of_ble_eq_true rfl⟩ ⟨Nat.le_of_ble_eq_true rfl, Nat.le_of_ble_eq_true rfl⟩ rfl (Nat.le_of_ble_eq_true rfl) dX8_gather_24) ⟨rfl, rfl⟩ [] (by decide) rfl rfl (fun H locs hw => ?_)
        refine lv_iload_n hx hb dX8_gather_27 rfl (lv_at hl 3 rfl) ?_
        obtain ⟨u8, eu8, hF1⟩ := kk_bind hF1
        refine lv_irem hx hb dX8_gather_28 (kk_nz_ok eu8) ?_
        refine lv_iload_n hx hb dX8_gather_29 rfl (lv_at hl 1 rfl) ?_
        refine lv_icmp_ne (tgt := 50) hx hb dX8_gather_30 (by decide) (fun c9 => ?_) (fun c9 => ?_)
        · have hF1 := (if_neg c9).symm.trans hF1
          exact hJ4 f_some_3 i4_3 i5_3 hF1 _ _ _ hw (lv_sub hl [0, 1, 2, 3, 4, 5] rfl)
        · have hF1 := (if_pos c9).symm.trans hF1
          refine lv_aload_n hx hb dX8_gather_33 rfl (lv_at hl 0 rfl) ?_
          refine kk_get (T := TX8) F hw ui_X8_gather_X8 0 rfl rfl 12 (by decide) m_X8_gather_Cond_fieldLink_RX8_25_PerfectPewModel_some_I_ rfl dX8_gather_34 ?_
          refine lv_iload hx hb dX8_gather_37 (lv_at hl 4 rfl) ?_
          refine lv_aload_n hx hb dX8_gather_39 rfl (lv_at hl 0 rfl) ?_
          refine kk_get (T := TX8) F hw ui_X8_gather_X8 0 rfl rfl 0 (by decide) m_X8_gather_Cond_fieldLink_RX8_7_PerfectPewModel_keys_I_ rfl dX8_gather_40 ?_
          refine lv_iload hx hb dX8_gather_43 (lv_at hl 5 rfl) ?_
          obtain ⟨v10, ev10, hF1⟩ := kk_bind hF1
          refine kk_iald F hw 1 rfl ev10 dX8_gather_45 ?_
          obtain ⟨w11, ew11, hF1⟩ := kk_bind hF1
          refine kk_iast F hw 2 rfl ew11 dX8_gather_46 (fun H locs hw => ?_)
          have hw : kk_wd G A s.heap [(a0, .inr (8, [.ref a1, .int x_many, .int x_built, .int x_seed, .int x_graphSeed, .int x_bits, .int x_bucketMany, .int x_width, .ref a2, .ref a3, .ref a4, .ref a5, .ref a6, .ref a7, .ref a8, .ref a9, .ref a10, .ref a11, .ref a12, .int x_thrown])), (a1, .inl (cI, 120, .inl f_keys)), (a6, .inl (cI, 120, .inl w11))] H locs := hw
          refine lv_iinc (v := (i4_3 + 1)) (lv' := [(4, .int (i4_3 + 1)), (0, .ref a0), (1, .int i1), (2, .int i2), (3, .int i3), (5, .int i5_3)]) hx hb dX8_gather_47 hl (k := 4) rfl rfl (by decide) rfl (fun ls hl => ?_)
          exact hJ4 w11 (i4_3 + 1) i5_3 hF1 _ _ _ hw (lv_sub hl [1, 2, 3, 4, 0, 5] rfl)
  exact hL3 N f_some 0 0 hz3 _ _ _ hw (lv_sub hl [2, 3, 4, 5, 1, 0] rfl)
theorem ui_X8_goes_X8 : ∀ w ∈ u_ws RX8 TX8 20, w ∈ wsX8_goes := by decide +kernel
theorem m_X8_goes_Cond_fieldLink_RX8_25_PerfectPewModel_some_I_ : Cond.fieldLink RX8 25 "PerfectPewModel" "some" "[I" ∈ wsX8_goes := by decide +kernel
theorem m_X8_goes_Cond_fieldLink_RX8_99_PerfectPewModel_many_I_ : Cond.fieldLink RX8 99 "PerfectPewModel" "many" "I" ∈ wsX8_goes := by decide +kernel
theorem m_X8_goes_Cond_fieldLink_RX8_31_PerfectPewModel_triedOwner_I_ : Cond.fieldLink RX8 31 "PerfectPewModel" "triedOwner" "[I" ∈ wsX8_goes := by decide +kernel
set_option maxRecDepth 100000 in
set_option maxHeartbeats 4000000 in
theorem c_X8_goes (l : Launch) (G : va_G) (cI cJ : ClassId) (ad : Nat → Nat) (a0 a1 a2 a3 a4 a5 a6 a7 a8 a9 a10 a11 a12 : Nat) (x_many : Int32) (x_built : Int32) (x_seed : Int32) (x_graphSeed : Int32) (x_bits : Int32) (x_bucketMany : Int32) (x_width : Int32) (x_thrown : Int32) (f_some : Nat → Int32) (f_triedOwner : Nat → Int32) (i1 : Int32) (i2 : Int32) (i3 : Int32) (N : Nat) (x : Int32) (hF0 : F_X8_goes N x_many f_some f_triedOwner i1 i2 i3 = some x) : kk_I l yX8_goes wsX8_goes 4 0 0 87 [.ref a0, .int i1, .int i2, .int i3] G cI cJ ad [(a0, .inr (8, [.ref a1, .int x_many, .int x_built, .int x_seed, .int x_graphSeed, .int x_bits, .int x_bucketMany, .int x_width, .ref a2, .ref a3, .ref a4, .ref a5, .ref a6, .ref a7, .ref a8, .ref a9, .ref a10, .ref a11, .ref a12, .int x_thrown])), (a6, .inl (cI, 120, .inl f_some)), (a8, .inl (cI, 120, .inl f_triedOwner))] x [(a0, .inr (8, [.ref a1, .int x_many, .int x_built, .int x_seed, .int x_graphSeed, .int x_bits, .int x_bucketMany, .int x_width, .ref a2, .ref a3, .ref a4, .ref a5, .ref a6, .ref a7, .ref a8, .ref a9, .ref a10, .ref a11, .ref a12, .int x_thrown])), (a6, .inl (cI, 120, .inl f_some)), (a8, .inl (cI, 120, .inl f_triedOwner))] := by
  refine kk_ofZ (cc := cX8_goes) (maxL := 8) (by decide) rfl (Nat.le_of_ble_eq_true rfl) ?_
  intro p e s m below meth c A Q ls H locs hx hb hml hown hts hE hw hl hret
  have F : kk_at p m c cX8_goes 8 s _ wsX8_goes RX8 G cI cJ ad A := ⟨⟨hx, hb, hml, hown, hts⟩, hE⟩
  have hl : lv_has ls 8 [(0, .ref a0), (1, .int i1), (2, .int i2), (3, .int i3)] := hl
  unfold F_X8_goes at hF0
  have hJ1 : ∀ (i4_1 : Int32), J_X8_goes_108 N i4_1 = some x → ∀ (H : Heap) (locs : List Loc) (ls : Array Slot), kk_wd G A s.heap [(a0, .inr (8, [.ref a1, .int x_many, .int x_built, .int x_seed, .int x_graphSeed, .int x_bits, .int x_bucketMany, .int x_width, .ref a2, .ref a3, .ref a4, .ref a5, .ref a6, .ref a7, .ref a8, .ref a9, .ref a10, .ref a11, .ref a12, .int x_thrown])), (a6, .inl (cI, 120, .inl f_some)), (a8, .inl (cI, 120, .inl f_triedOwner))] H locs → lv_has ls 8 [(4, .int i4_1)] → W p l e (kk_rm 4 0 0 87) s m ([.ref a0, .int i1, .int i2, .int i3] : List Value).toArray below meth c H locs 0 0 Q (F0 m 108 ls []) := by
    intro i4_1 hF0 H locs ls hw hl
    unfold J_X8_goes_108 at hF0
    refine lv_iload hx hb dX8_goes_108 (lv_at hl 0 rfl) ?_
    obtain ⟨u2, eu2, hF0⟩ := kk_bind hF0
    have hy := Option.some.inj hF0
    subst hy
    exact hret dX8_goes_110 (by decide) (by decide) (kk_bl_ok eu2) hw
  refine lv_iconst (v := 1) hx hb dX8_goes_0 (by decide) ?_
  refine lv_istore (lv' := [(4, .int 1), (0, .ref a0), (1, .int i1), (2, .int i2), (3, .int i3)]) hx hb dX8_goes_1 hl (by decide) rfl (fun ls hl => ?_)
  refine lv_iconst (v := 0) hx hb dX8_goes_3 (by decide) ?_
  refine lv_istore (lv' := [(5, .int 0), (4, .int 1), (0, .ref a0), (1, .int i1), (2, .int i2), (3, .int i3)]) hx hb dX8_goes_4 hl (by decide) rfl (fun ls hl => ?_)
  obtain ⟨z3, hz4, hF0⟩ := kk_bind hF0
  have hL4 : ∀ (n4 : Nat) (i4_4 : Int32) (i5_4 : Int32), kk_iter (fun (σ : (Int32 × Int32)) => L_X8_goes_6 N x_many f_some f_triedOwner i1 i2 i3 σ.1 σ.2) n4 (i4_4, i5_4) = some z3 → ∀ (H : Heap) (locs : List Loc) (ls : Array Slot), kk_wd G A s.heap [(a0, .inr (8, [.ref a1, .int x_many, .int x_built, .int x_seed, .int x_graphSeed, .int x_bits, .int x_bucketMany, .int x_width, .ref a2, .ref a3, .ref a4, .ref a5, .ref a6, .ref a7, .ref a8, .ref a9, .ref a10, .ref a11, .ref a12, .int x_thrown])), (a6, .inl (cI, 120, .inl f_some)), (a8, .inl (cI, 120, .inl f_triedOwner))] H locs → lv_has ls 8 [(0, .ref a0), (1, .int i1), (2, .int i2), (3, .int i3), (4, .int i4_4), (5, .int i5_4)] → W p l e (kk_rm 4 0 0 87) s m ([.ref a0, .int i1, .int i2, .int i3] : List Value).toArray below meth c H locs 0 0 Q (F0 m 6 ls []) := by
    intro n4
    induction n4 with
    | zero => intro i4_4 i5_4 h; exact kk_iter0 h
    | succ n4 ih4 =>
      intro i4_4 i5_4 hq H locs ls hw hl
      obtain ⟨y4, hF1, hI1⟩ := kk_iterS hq
      have hF1 : L_X8_goes_6 N x_many f_some f_triedOwner i1 i2 i3 i4_4 i5_4 = some y4 := hF1
      unfold L_X8_goes_6 at hF1
      have hJ5 : ∀ (i4_5 : Int32) (i5_5 : Int32), J_X8_goes_102 N i4_5 i5_5 = some y4 → ∀ (H : Heap) (locs : List Loc) (ls : Array Slot), kk_wd G A s.heap [(a0, .inr (8, [.ref a1, .int x_many, .int x_built, .int x_seed, .int x_graphSeed, .int x_bits, .int x_bucketMany, .int x_width, .ref a2, .ref a3, .ref a4, .ref a5, .ref a6, .ref a7, .ref a8, .ref a9, .ref a10, .ref a11, .ref a12, .int x_thrown])), (a6, .inl (cI, 120, .inl f_some)), (a8, .inl (cI, 120, .inl f_triedOwner))] H locs → lv_has ls 8 [(0, .ref a0), (1, .int i1), (2, .int i2), (3, .int i3), (4, .int i4_5), (5, .int i5_5)] → W p l e (kk_rm 4 0 0 87) s m ([.ref a0, .int i1, .int i2, .int i3] : List Value).toArray below meth c H locs 0 0 Q (F0 m 102 ls []) := by
        intro i4_5 i5_5 hF1 H locs ls hw hl
        unfold J_X8_goes_102 at hF1
        refine lv_iinc (v := (i5_5 + 1)) (lv' := [(5, .int (i5_5 + 1)), (0, .ref a0), (1, .int i1), (2, .int i2), (3, .int i3), (4, .int i4_5)]) hx hb dX8_goes_102 hl (k := 5) rfl rfl (by decide) rfl (fun ls hl => ?_)
        refine lv_goto (tgt := 6) hx hb dX8_goes_105 (by decide) ?_
        have hy := Option.some.inj hF1
        subst hy
        exact ih4 i4_5 (i5_5 + 1) hI1 _ _ _ hw (lv_sub hl [1, 2, 3, 4, 5, 0] rfl)
      have hJ6 : ∀ (i5_6 : Int32) (i6_6 : Int32) (s0_6 : Int32), J_X8_goes_51 N x_many f_some i2 i3 i5_6 i6_6 s0_6 = some y4 → ∀ (H : Heap) (locs : List Loc) (ls : Array Slot), kk_wd G A s.heap [(a0, .inr (8, [.ref a1, .int x_many, .int x_built, .int x_seed, .int x_graphSeed, .int x_bits, .int x_bucketMany, .int x_width, .ref a2, .ref a3, .ref a4, .ref a5, .ref a6, .ref a7, .ref a8, .ref a9, .ref a10, .ref a11, .ref a12, .int x_thrown])), (a6, .inl (cI, 120, .inl f_some)), (a8, .inl (cI, 120, .inl f_triedOwner))] H locs → lv_has ls 8 [(0, .ref a0), (1, .int i1), (2, .int i2), (3, .int i3), (5, .int i5_6), (6, .int i6_6)] → W p l e (kk_rm 4 0 0 87) s m ([.ref a0, .int i1, .int i2, .int i3] : List Value).toArray below meth c H locs 0 0 Q (F0 m 51 ls [.int s0_6]) := by
        intro i5_6 i6_6 s0_6 hF1 H locs ls hw hl
        unfold J_X8_goes_51 at hF1
        refine lv_istore (lv' := [(4, .int s0_6), (0, .ref a0), (1, .int i1), (2, .int i2), (3, .int i3), (5, .int i5_6), (6, .int i6_6)]) hx hb dX8_goes_51 hl (by decide) rfl (fun ls hl => ?_)
        refine lv_iconst (v := 0) hx hb dX8_goes_53 (by decide) ?_
        refine lv_istore (lv' := [(7, .int 0), (4, .int s0_6), (0, .ref a0), (1, .int i1), (2, .int i2), (3, .int i3), (5, .int i5_6), (6, .int i6_6)]) hx hb dX8_goes_54 hl (by decide) rfl (fun ls hl => ?_)
        obtain ⟨z7, hz8, hF1⟩ := kk_bind hF1
        have hL8 : ∀ (n8 : Nat) (i4_8 : Int32) (i7_8 : Int32), kk_iter (fun (σ : (Int32 × Int32)) => L_X8_goes_56 N x_many f_some i2 i3 i5_6 i6_6 σ.1 σ.2) n8 (i4_8, i7_8) = some z7 → ∀ (H : Heap) (locs : List Loc) (ls : Array Slot), kk_wd G A s.heap [(a0, .inr (8, [.ref a1, .int x_many, .int x_built, .int x_seed, .int x_graphSeed, .int x_bits, .int x_bucketMany, .int x_width, .ref a2, .ref a3, .ref a4, .ref a5, .ref a6, .ref a7, .ref a8, .ref a9, .ref a10, .ref a11, .ref a12, .int x_thrown])), (a6, .inl (cI, 120, .inl f_some)), (a8, .inl (cI, 120, .inl f_triedOwner))] H locs → lv_has ls 8 [(0, .ref a0), (1, .int i1), (2, .int i2), (3, .int i3), (4, .int i4_8), (5, .int i5_6), (6, .int i6_6), (7, .int i7_8)] → W p l e (kk_rm 4 0 0 87) s m ([.ref a0, .int i1, .int i2, .int i3] : List Value).toArray below meth c H locs 0 0 Q (F0 m 56 ls []) := by
          intro n8
          induction n8 with
          | zero => intro i4_8 i7_8 h; exact kk_iter0 h
          | succ n8 ih8 =>
            intro i4_8 i7_8 hq H locs ls hw hl
            obtain ⟨y8, hF2, hI2⟩ := kk_iterS hq
            have hF2 : L_X8_goes_56 N x_many f_some i2 i3 i5_6 i6_6 i4_8 i7_8 = some y8 := hF2
            unfold L_X8_goes_56 at hF2
            have hJ9 : ∀ (i7_9 : Int32) (s0_9 : Int32), J_X8_goes_94 N i7_9 s0_9 = some y8 → ∀ (H : Heap) (locs : List Loc) (ls : Array Slot), kk_wd G A s.heap [(a0, .inr (8, [.ref a1, .int x_many, .int x_built, .int x_seed, .int x_graphSeed, .int x_bits, .int x_bucketMany, .int x_width, .ref a2, .ref a3, .ref a4, .ref a5, .ref a6, .ref a7, .ref a8, .ref a9, .ref a10, .ref a11, .ref a12, .int x_thrown])), (a6, .inl (cI, 120, .inl f_some)), (a8, .inl (cI, 120, .inl f_triedOwner))] H locs → lv_has ls 8 [(0, .ref a0), (1, .int i1), (2, .int i2), (3, .int i3), (5, .int i5_6), (6, .int i6_6), (7, .int i7_9)] → W p l e (kk_rm 4 0 0 87) s m ([.ref a0, .int i1, .int i2, .int i3] : List Value).toArray below meth c H locs 0 0 Q (F0 m 94 ls [.int s0_9]) := by
              intro i7_9 s0_9 hF2 H locs ls hw hl
              unfold J_X8_goes_94 at hF2
              refine lv_istore (lv' := [(4, .int s0_9), (0, .ref a0), (1, .int i1), (2, .int i2), (3, .int i3), (5, .int i5_6), (6, .int i6_6), (7, .int i7_9)]) hx hb dX8_goes_94 hl (by decide) rfl (fun ls hl => ?_)
              refine lv_iinc (v := (i7_9 + 1)) (lv' := [(7, .int (i7_9 + 1)), (4, .int s0_9), (0, .ref a0), (1, .int i1), (2, .int i2), (3, .int i3), (5, .int i5_6), (6, .int i6_6)]) hx hb dX8_goes_96 hl (k := 7) rfl rfl (by decide) rfl (fun ls hl => ?_)
              refine lv_goto (tgt := 56) hx hb dX8_goes_99 (by decide) ?_
              have hy := Option.some.inj hF2
              subst hy
              exact ih8 s0_9 (i7_9 + 1) hI2 _ _ _ hw (lv_sub hl [2, 3, 4, 5, 1, 6, 7, 0] rfl)
            refine lv_iload hx hb dX8_goes_56 (lv_at hl 7 rfl) ?_
            refine lv_iload hx hb dX8_goes_58 (lv_at hl 5 rfl) ?_
            refine lv_icmp_ge (tgt := 102) hx hb dX8_goes_60 (by decide) (fun c10 => ?_) (fun c10 => ?_)
            · have hF2 := (if_pos c10).symm.trans hF2
              have hy := Option.some.inj hF2
              subst hy
              have hz := Option.some.inj hI2
              subst hz
              exact hJ5 i4_8 i5_6 hF1 _ _ _ hw (lv_sub hl [0, 1, 2, 3, 4, 5] rfl)
            · have hF2 := (if_neg c10).symm.trans hF2
              refine lv_iload hx hb dX8_goes_63 (lv_at hl 4 rfl) ?_
              refine lv_if_eq (tgt := 102) hx hb dX8_goes_65 (by decide) (fun c11 => ?_) (fun c11 => ?_)
              · have hF2 := (if_pos c11).symm.trans hF2
                have hy := Option.some.inj hF2
                subst hy
                have hz := Option.some.inj hI2
                subst hz
                exact hJ5 i4_8 i5_6 hF1 _ _ _ hw (lv_sub hl [0, 1, 2, 3, 4, 5] rfl)
              · have hF2 := (if_neg c11).symm.trans hF2
                refine lv_aload_n hx hb dX8_goes_68 rfl (lv_at hl 0 rfl) ?_
                refine kk_get (T := TX8) F hw ui_X8_goes_X8 0 rfl rfl 12 (by decide) m_X8_goes_Cond_fieldLink_RX8_25_PerfectPewModel_some_I_ rfl dX8_goes_69 ?_
                refine lv_iload hx hb dX8_goes_72 (lv_at hl 7 rfl) ?_
                obtain ⟨v12, ev12, hF2⟩ := kk_bind hF2
                refine kk_iald F hw 1 rfl ev12 dX8_goes_74 ?_
                refine lv_iload_n hx hb dX8_goes_75 rfl (lv_at hl 2 rfl) ?_
                refine lv_iload_n hx hb dX8_goes_76 rfl (lv_at hl 3 rfl) ?_
                refine lv_aload_n hx hb dX8_goes_77 rfl (lv_at hl 0 rfl) ?_
                refine kk_get (T := TX8) F hw ui_X8_goes_X8 0 rfl rfl 1 (by decide) m_X8_goes_Cond_fieldLink_RX8_99_PerfectPewModel_many_I_ rfl dX8_goes_78 ?_
                obtain ⟨v13, ev13, hF2⟩ := kk_bind hF2
                refine kk_callI 0 0 hw (kk_runS (As := [.int v12, .int i2, .int i3, .int x_many]) (rest := []) F hw hl.1 (c_X8_place l G cI cJ ad v12 i2 i3 x_many N v13 ev13 H.size) gX8_goes_X8_place rfl md_X8_place ⟨Nat.le_of_ble_eq_true rfl, Nat.le_of_ble_eq_true rfl⟩ ⟨Nat.le_of_ble_eq_true rfl, Nat.le_of_ble_eq_true rfl⟩ rfl (Nat.le_of_ble_eq_true rfl) dX8_goes_81) ⟨rfl, rfl⟩ [] (by decide) rfl rfl (fun H locs hw => ?_)
                refine lv_iload hx hb dX8_goes_84 (lv_at hl 6 rfl) ?_
                refine lv_icmp_eq (tgt := 93) hx hb dX8_goes_86 (by decide) (fun c14 => ?_) (fun c14 => ?_)
                · have hF2 := (if_pos c14).symm.trans hF2
                  refine lv_iconst (v := 0) hx hb dX8_goes_93 (by decide) ?_
                  exact hJ9 i7_8 0 hF2 _ _ _ hw (lv_sub hl [0, 1, 2, 3, 5, 6, 7] rfl)
                · have hF2 := (if_neg c14).symm.trans hF2
                  refine lv_iconst (v := 1) hx hb dX8_goes_89 (by decide) ?_
                  refine lv_goto (tgt := 94) hx hb dX8_goes_90 (by decide) ?_
                  exact hJ9 i7_8 1 hF2 _ _ _ hw (lv_sub hl [0, 1, 2, 3, 5, 6, 7] rfl)
        exact hL8 N s0_6 0 hz8 _ _ _ hw (lv_sub hl [2, 3, 4, 5, 1, 6, 7, 0] rfl)
      refine lv_iload hx hb dX8_goes_6 (lv_at hl 5 rfl) ?_
      refine lv_iload_n hx hb dX8_goes_8 rfl (lv_at hl 1 rfl) ?_
      refine lv_icmp_ge (tgt := 108) hx hb dX8_goes_9 (by decide) (fun c15 => ?_) (fun c15 => ?_)
      · have hF1 := (if_pos c15).symm.trans hF1
        have hy := Option.some.inj hF1
        subst hy
        have hz := Option.some.inj hI1
        subst hz
        exact hJ1 i4_4 hF0 _ _ _ hw (lv_sub hl [4] rfl)
      · have hF1 := (if_neg c15).symm.trans hF1
        refine lv_iload hx hb dX8_goes_12 (lv_at hl 4 rfl) ?_
        refine lv_if_eq (tgt := 108) hx hb dX8_goes_14 (by decide) (fun c16 => ?_) (fun c16 => ?_)
        · have hF1 := (if_pos c16).symm.trans hF1
          have hy := Option.some.inj hF1
          subst hy
          have hz := Option.some.inj hI1
          subst hz
          exact hJ1 i4_4 hF0 _ _ _ hw (lv_sub hl [4] rfl)
        · have hF1 := (if_neg c16).symm.trans hF1
          refine lv_aload_n hx hb dX8_goes_17 rfl (lv_at hl 0 rfl) ?_
          refine kk_get (T := TX8) F hw ui_X8_goes_X8 0 rfl rfl 12 (by decide) m_X8_goes_Cond_fieldLink_RX8_25_PerfectPewModel_some_I_ rfl dX8_goes_18 ?_
          refine lv_iload hx hb dX8_goes_21 (lv_at hl 5 rfl) ?_
          obtain ⟨v17, ev17, hF1⟩ := kk_bind hF1
          refine kk_iald F hw 1 rfl ev17 dX8_goes_23 ?_
          refine lv_iload_n hx hb dX8_goes_24 rfl (lv_at hl 2 rfl) ?_
          refine lv_iload_n hx hb dX8_goes_25 rfl (lv_at hl 3 rfl) ?_
          refine lv_aload_n hx hb dX8_goes_26 rfl (lv_at hl 0 rfl) ?_
          refine kk_get (T := TX8) F hw ui_X8_goes_X8 0 rfl rfl 1 (by decide) m_X8_goes_Cond_fieldLink_RX8_99_PerfectPewModel_many_I_ rfl dX8_goes_27 ?_
          obtain ⟨v18, ev18, hF1⟩ := kk_bind hF1
          refine kk_callI 0 0 hw (kk_runS (As := [.int v17, .int i2, .int i3, .int x_many]) (rest := []) F hw hl.1 (c_X8_place l G cI cJ ad v17 i2 i3 x_many N v18 ev18 H.size) gX8_goes_X8_place rfl md_X8_place ⟨Nat.le_of_ble_eq_true rfl, Nat.le_of_ble_eq_true rfl⟩ ⟨Nat.le_of_ble_eq_true rfl, Nat.le_of_ble_eq_true rfl⟩ rfl (Nat.le_of_ble_eq_true rfl) dX8_goes_30) ⟨rfl, rfl⟩ [] (by decide) rfl rfl (fun H locs hw => ?_)
          refine lv_istore (lv' := [(6, .int v18), (0, .ref a0), (1, .int i1), (2, .int i2), (3, .int i3), (4, .int i4_4), (5, .int i5_4)]) hx hb dX8_goes_33 hl (by decide) rfl (fun ls hl => ?_)
          refine lv_aload_n hx hb dX8_goes_35 rfl (lv_at hl 1 rfl) ?_
          refine kk_get (T := TX8) F hw ui_X8_goes_X8 0 rfl rfl 14 (by decide) m_X8_goes_Cond_fieldLink_RX8_31_PerfectPewModel_triedOwner_I_ rfl dX8_goes_36 ?_
          refine lv_iload hx hb dX8_goes_39 (lv_at hl 0 rfl) ?_
          obtain ⟨v19, ev19, hF1⟩ := kk_bind hF1
          refine kk_iald F hw 2 rfl ev19 dX8_goes_41 ?_
          refine lv_iconst (v := (-1)) hx hb dX8_goes_42 (by decide) ?_
          refine lv_icmp_ne (tgt := 50) hx hb dX8_goes_43 (by decide) (fun c20 => ?_) (fun c20 => ?_)
          · have hF1 := (if_neg c20).symm.trans hF1
            refine lv_iconst (v := 0) hx hb dX8_goes_50 (by decide) ?_
            exact hJ6 i5_4 v18 0 hF1 _ _ _ hw (lv_sub hl [1, 2, 3, 4, 6, 0] rfl)
          · have hF1 := (if_pos c20).symm.trans hF1
            refine lv_iconst (v := 1) hx hb dX8_goes_46 (by decide) ?_
            refine lv_goto (tgt := 51) hx hb dX8_goes_47 (by decide) ?_
            exact hJ6 i5_4 v18 1 hF1 _ _ _ hw (lv_sub hl [1, 2, 3, 4, 6, 0] rfl)
  exact hL4 N 1 0 hz4 _ _ _ hw (lv_sub hl [2, 3, 4, 5, 1, 0] rfl)
theorem ui_X8_lays_X8 : ∀ w ∈ u_ws RX8 TX8 20, w ∈ wsX8_lays := by decide +kernel
theorem m_X8_lays_Cond_fieldLink_RX8_28_PerfectPewModel_triedShift_I_ : Cond.fieldLink RX8 28 "PerfectPewModel" "triedShift" "[I" ∈ wsX8_lays := by decide +kernel
theorem m_X8_lays_Cond_fieldLink_RX8_31_PerfectPewModel_triedOwner_I_ : Cond.fieldLink RX8 31 "PerfectPewModel" "triedOwner" "[I" ∈ wsX8_lays := by decide +kernel
theorem m_X8_lays_Cond_fieldLink_RX8_25_PerfectPewModel_some_I_ : Cond.fieldLink RX8 25 "PerfectPewModel" "some" "[I" ∈ wsX8_lays := by decide +kernel
theorem m_X8_lays_Cond_fieldLink_RX8_99_PerfectPewModel_many_I_ : Cond.fieldLink RX8 99 "PerfectPewModel" "many" "I" ∈ wsX8_lays := by decide +kernel
set_option maxRecDepth 100000 in
set_option maxHeartbeats 4000000 in
theorem c_X8_lays (l : Launch) (G : va_G) (cI cJ : ClassId) (ad : Nat → Nat) (a0 a1 a2 a3 a4 a5 a6 a7 a8 a9 a10 a11 a12 : Nat) (x_many : Int32) (x_built : Int32) (x_seed : Int32) (x_graphSeed : Int32) (x_bits : Int32) (x_bucketMany : Int32) (x_width : Int32) (x_thrown : Int32) (f_keys : Nat → Int32) (f_some : Nat → Int32) (f_triedShift : Nat → Int32) (f_triedOwner : Nat → Int32) (i1 : Int32) (i2 : Int32) (i3 : Int32) (N : Nat) (x : (Int32 × (Nat → Int32) × (Nat → Int32) × (Nat → Int32))) (hF0 : F_X8_lays N x_many f_keys f_some f_triedShift f_triedOwner i1 i2 i3 = some x) : kk_I l yX8_lays wsX8_lays 5 0 0 114 [.ref a0, .int i1, .int i2, .int i3] G cI cJ ad [(a0, .inr (8, [.ref a1, .int x_many, .int x_built, .int x_seed, .int x_graphSeed, .int x_bits, .int x_bucketMany, .int x_width, .ref a2, .ref a3, .ref a4, .ref a5, .ref a6, .ref a7, .ref a8, .ref a9, .ref a10, .ref a11, .ref a12, .int x_thrown])), (a1, .inl (cI, 120, .inl f_keys)), (a6, .inl (cI, 120, .inl f_some)), (a7, .inl (cI, 120, .inl f_triedShift)), (a8, .inl (cI, 120, .inl f_triedOwner))] x.1 [(a0, .inr (8, [.ref a1, .int x_many, .int x_built, .int x_seed, .int x_graphSeed, .int x_bits, .int x_bucketMany, .int x_width, .ref a2, .ref a3, .ref a4, .ref a5, .ref a6, .ref a7, .ref a8, .ref a9, .ref a10, .ref a11, .ref a12, .int x_thrown])), (a1, .inl (cI, 120, .inl f_keys)), (a6, .inl (cI, 120, .inl x.2.1)), (a7, .inl (cI, 120, .inl x.2.2.1)), (a8, .inl (cI, 120, .inl x.2.2.2))] := by
  refine kk_ofZ (cc := cX8_lays) (maxL := 7) (by decide) rfl (Nat.le_of_ble_eq_true rfl) ?_
  intro p e s m below meth c A Q ls H locs hx hb hml hown hts hE hw hl hret
  have F : kk_at p m c cX8_lays 7 s _ wsX8_lays RX8 G cI cJ ad A := ⟨⟨hx, hb, hml, hown, hts⟩, hE⟩
  have hl : lv_has ls 7 [(0, .ref a0), (1, .int i1), (2, .int i2), (3, .int i3)] := hl
  unfold F_X8_lays at hF0
  have hJ1 : ∀ (f_some_1 : Nat → Int32) (f_triedShift_1 : Nat → Int32) (f_triedOwner_1 : Nat → Int32), J_X8_lays_101 N f_some_1 f_triedShift_1 f_triedOwner_1 = some x → ∀ (H : Heap) (locs : List Loc) (ls : Array Slot), kk_wd G A s.heap [(a0, .inr (8, [.ref a1, .int x_many, .int x_built, .int x_seed, .int x_graphSeed, .int x_bits, .int x_bucketMany, .int x_width, .ref a2, .ref a3, .ref a4, .ref a5, .ref a6, .ref a7, .ref a8, .ref a9, .ref a10, .ref a11, .ref a12, .int x_thrown])), (a1, .inl (cI, 120, .inl f_keys)), (a6, .inl (cI, 120, .inl f_some_1)), (a7, .inl (cI, 120, .inl f_triedShift_1)), (a8, .inl (cI, 120, .inl f_triedOwner_1))] H locs → lv_has ls 7 [] → W p l e (kk_rm 5 0 0 114) s m ([.ref a0, .int i1, .int i2, .int i3] : List Value).toArray below meth c H locs 0 0 Q (F0 m 101 ls []) := by
    intro f_some_1 f_triedShift_1 f_triedOwner_1 hF0 H locs ls hw hl
    unfold J_X8_lays_101 at hF0
    refine lv_iconst (v := 1) hx hb dX8_lays_101 (by decide) ?_
    have hy := Option.some.inj hF0
    subst hy
    exact hret dX8_lays_102 (by decide) (by decide) (Or.inr rfl) hw
  have hJ2 : ∀ (f_some_2 : Nat → Int32) (f_triedShift_2 : Nat → Int32) (f_triedOwner_2 : Nat → Int32) (i4_2 : Int32) (i5_2 : Int32), J_X8_lays_38 N x_many f_some_2 f_triedShift_2 f_triedOwner_2 i1 i2 i4_2 i5_2 = some x → ∀ (H : Heap) (locs : List Loc) (ls : Array Slot), kk_wd G A s.heap [(a0, .inr (8, [.ref a1, .int x_many, .int x_built, .int x_seed, .int x_graphSeed, .int x_bits, .int x_bucketMany, .int x_width, .ref a2, .ref a3, .ref a4, .ref a5, .ref a6, .ref a7, .ref a8, .ref a9, .ref a10, .ref a11, .ref a12, .int x_thrown])), (a1, .inl (cI, 120, .inl f_keys)), (a6, .inl (cI, 120, .inl f_some_2)), (a7, .inl (cI, 120, .inl f_triedShift_2)), (a8, .inl (cI, 120, .inl f_triedOwner_2))] H locs → lv_has ls 7 [(0, .ref a0), (1, .int i1), (2, .int i2), (4, .int i4_2), (5, .int i5_2)] → W p l e (kk_rm 5 0 0 114) s m ([.ref a0, .int i1, .int i2, .int i3] : List Value).toArray below meth c H locs 0 0 Q (F0 m 38 ls []) := by
    intro f_some_2 f_triedShift_2 f_triedOwner_2 i4_2 i5_2 hF0 H locs ls hw hl
    unfold J_X8_lays_38 at hF0
    refine lv_iload hx hb dX8_lays_38 (lv_at hl 4 rfl) ?_
    refine lv_sipush (v := 512) hx hb dX8_lays_40 (by decide) ?_
    refine lv_icmp_ne (tgt := 48) hx hb dX8_lays_43 (by decide) (fun c3 => ?_) (fun c3 => ?_)
    · have hF0 := (if_neg c3).symm.trans hF0
      refine lv_aload_n hx hb dX8_lays_48 rfl (lv_at hl 0 rfl) ?_
      refine kk_get (T := TX8) F hw ui_X8_lays_X8 0 rfl rfl 13 (by decide) m_X8_lays_Cond_fieldLink_RX8_28_PerfectPewModel_triedShift_I_ rfl dX8_lays_49 ?_
      refine lv_iload_n hx hb dX8_lays_52 rfl (lv_at hl 1 rfl) ?_
      refine lv_iload hx hb dX8_lays_53 (lv_at hl 4 rfl) ?_
      obtain ⟨w4, ew4, hF0⟩ := kk_bind hF0
      refine kk_iast F hw 3 rfl ew4 dX8_lays_55 (fun H locs hw => ?_)
      have hw : kk_wd G A s.heap [(a0, .inr (8, [.ref a1, .int x_many, .int x_built, .int x_seed, .int x_graphSeed, .int x_bits, .int x_bucketMany, .int x_width, .ref a2, .ref a3, .ref a4, .ref a5, .ref a6, .ref a7, .ref a8, .ref a9, .ref a10, .ref a11, .ref a12, .int x_thrown])), (a1, .inl (cI, 120, .inl f_keys)), (a6, .inl (cI, 120, .inl f_some_2)), (a7, .inl (cI, 120, .inl w4)), (a8, .inl (cI, 120, .inl f_triedOwner_2))] H locs := hw
      refine lv_iconst (v := 0) hx hb dX8_lays_56 (by decide) ?_
      refine lv_istore (lv' := [(6, .int 0), (0, .ref a0), (1, .int i1), (2, .int i2), (4, .int i4_2), (5, .int i5_2)]) hx hb dX8_lays_57 hl (by decide) rfl (fun ls hl => ?_)
      obtain ⟨z5, hz6, hF0⟩ := kk_bind hF0
      have hL6 : ∀ (n6 : Nat) (f_triedOwner_6 : Nat → Int32) (i6_6 : Int32), kk_iter (fun (σ : ((Nat → Int32) × Int32)) => L_X8_lays_59 N x_many f_some_2 i2 i4_2 i5_2 σ.1 σ.2) n6 (f_triedOwner_6, i6_6) = some z5 → ∀ (H : Heap) (locs : List Loc) (ls : Array Slot), kk_wd G A s.heap [(a0, .inr (8, [.ref a1, .int x_many, .int x_built, .int x_seed, .int x_graphSeed, .int x_bits, .int x_bucketMany, .int x_width, .ref a2, .ref a3, .ref a4, .ref a5, .ref a6, .ref a7, .ref a8, .ref a9, .ref a10, .ref a11, .ref a12, .int x_thrown])), (a1, .inl (cI, 120, .inl f_keys)), (a6, .inl (cI, 120, .inl f_some_2)), (a7, .inl (cI, 120, .inl w4)), (a8, .inl (cI, 120, .inl f_triedOwner_6))] H locs → lv_has ls 7 [(0, .ref a0), (2, .int i2), (4, .int i4_2), (5, .int i5_2), (6, .int i6_6)] → W p l e (kk_rm 5 0 0 114) s m ([.ref a0, .int i1, .int i2, .int i3] : List Value).toArray below meth c H locs 0 0 Q (F0 m 59 ls []) := by
        intro n6
        induction n6 with
        | zero => intro f_triedOwner_6 i6_6 h; exact kk_iter0 h
        | succ n6 ih6 =>
          intro f_triedOwner_6 i6_6 hq H locs ls hw hl
          obtain ⟨y6, hF1, hI1⟩ := kk_iterS hq
          have hF1 : L_X8_lays_59 N x_many f_some_2 i2 i4_2 i5_2 f_triedOwner_6 i6_6 = some y6 := hF1
          unfold L_X8_lays_59 at hF1
          refine lv_iload hx hb dX8_lays_59 (lv_at hl 4 rfl) ?_
          refine lv_iload hx hb dX8_lays_61 (lv_at hl 2 rfl) ?_
          refine lv_icmp_ge (tgt := 101) hx hb dX8_lays_63 (by decide) (fun c7 => ?_) (fun c7 => ?_)
          · have hF1 := (if_pos c7).symm.trans hF1
            have hy := Option.some.inj hF1
            subst hy
            have hz := Option.some.inj hI1
            subst hz
            exact hJ1 f_some_2 w4 f_triedOwner_6 hF0 _ _ _ hw (lv_sub hl [] rfl)
          · have hF1 := (if_neg c7).symm.trans hF1
            refine lv_aload_n hx hb dX8_lays_66 rfl (lv_at hl 0 rfl) ?_
            refine kk_get (T := TX8) F hw ui_X8_lays_X8 0 rfl rfl 14 (by decide) m_X8_lays_Cond_fieldLink_RX8_31_PerfectPewModel_triedOwner_I_ rfl dX8_lays_67 ?_
            refine lv_aload_n hx hb dX8_lays_70 rfl (lv_at hl 0 rfl) ?_
            refine kk_get (T := TX8) F hw ui_X8_lays_X8 0 rfl rfl 12 (by decide) m_X8_lays_Cond_fieldLink_RX8_25_PerfectPewModel_some_I_ rfl dX8_lays_71 ?_
            refine lv_iload hx hb dX8_lays_74 (lv_at hl 4 rfl) ?_
            obtain ⟨v8, ev8, hF1⟩ := kk_bind hF1
            refine kk_iald F hw 2 rfl ev8 dX8_lays_76 ?_
            refine lv_iload_n hx hb dX8_lays_77 rfl (lv_at hl 1 rfl) ?_
            refine lv_iload hx hb dX8_lays_78 (lv_at hl 3 rfl) ?_
            refine lv_aload_n hx hb dX8_lays_80 rfl (lv_at hl 0 rfl) ?_
            refine kk_get (T := TX8) F hw ui_X8_lays_X8 0 rfl rfl 1 (by decide) m_X8_lays_Cond_fieldLink_RX8_99_PerfectPewModel_many_I_ rfl dX8_lays_81 ?_
            obtain ⟨v9, ev9, hF1⟩ := kk_bind hF1
            refine kk_callI 0 0 hw (kk_runS (As := [.int v8, .int i2, .int i5_2, .int x_many]) (rest := [.ref a8]) F hw hl.1 (c_X8_place l G cI cJ ad v8 i2 i5_2 x_many N v9 ev9 H.size) gX8_lays_X8_place rfl md_X8_place ⟨Nat.le_of_ble_eq_true rfl, Nat.le_of_ble_eq_true rfl⟩ ⟨Nat.le_of_ble_eq_true rfl, Nat.le_of_ble_eq_true rfl⟩ rfl (Nat.le_of_ble_eq_true rfl) dX8_lays_84) ⟨rfl, rfl⟩ [] (by decide) rfl rfl (fun H locs hw => ?_)
            refine lv_aload_n hx hb dX8_lays_87 rfl (lv_at hl 0 rfl) ?_
            refine kk_get (T := TX8) F hw ui_X8_lays_X8 0 rfl rfl 12 (by decide) m_X8_lays_Cond_fieldLink_RX8_25_PerfectPewModel_some_I_ rfl dX8_lays_88 ?_
            refine lv_iload hx hb dX8_lays_91 (lv_at hl 4 rfl) ?_
            obtain ⟨v10, ev10, hF1⟩ := kk_bind hF1
            refine kk_iald F hw 2 rfl ev10 dX8_lays_93 ?_
            obtain ⟨w11, ew11, hF1⟩ := kk_bind hF1
            refine kk_iast F hw 4 rfl ew11 dX8_lays_94 (fun H locs hw => ?_)
            have hw : kk_wd G A s.heap [(a0, .inr (8, [.ref a1, .int x_many, .int x_built, .int x_seed, .int x_graphSeed, .int x_bits, .int x_bucketMany, .int x_width, .ref a2, .ref a3, .ref a4, .ref a5, .ref a6, .ref a7, .ref a8, .ref a9, .ref a10, .ref a11, .ref a12, .int x_thrown])), (a1, .inl (cI, 120, .inl f_keys)), (a6, .inl (cI, 120, .inl f_some_2)), (a7, .inl (cI, 120, .inl w4)), (a8, .inl (cI, 120, .inl w11))] H locs := hw
            refine lv_iinc (v := (i6_6 + 1)) (lv' := [(6, .int (i6_6 + 1)), (0, .ref a0), (2, .int i2), (4, .int i4_2), (5, .int i5_2)]) hx hb dX8_lays_95 hl (k := 4) rfl rfl (by decide) rfl (fun ls hl => ?_)
            refine lv_goto (tgt := 59) hx hb dX8_lays_98 (by decide) ?_
            have hy := Option.some.inj hF1
            subst hy
            exact ih6 w11 (i6_6 + 1) hI1 _ _ _ hw (lv_sub hl [1, 2, 3, 4, 0] rfl)
      exact hL6 N f_triedOwner_2 0 hz6 _ _ _ hw (lv_sub hl [1, 3, 4, 5, 0] rfl)
    · have hF0 := (if_pos c3).symm.trans hF0
      refine lv_iconst (v := 0) hx hb dX8_lays_46 (by decide) ?_
      have hy := Option.some.inj hF0
      subst hy
      exact hret dX8_lays_47 (by decide) (by decide) (Or.inl rfl) hw
  refine lv_aload_n hx hb dX8_lays_0 rfl (lv_at hl 0 rfl) ?_
  refine lv_iload_n hx hb dX8_lays_1 rfl (lv_at hl 1 rfl) ?_
  refine lv_iload_n hx hb dX8_lays_2 rfl (lv_at hl 2 rfl) ?_
  refine lv_iload_n hx hb dX8_lays_3 rfl (lv_at hl 3 rfl) ?_
  obtain ⟨v12, ev12, hF0⟩ := kk_bind hF0
  refine kk_callI 0 0 hw (kk_runV (As := [.int i1, .int i2, .int i3]) (rest := []) F hw hl.1 (c_X8_gather l G cI cJ ad a0 a1 a2 a3 a4 a5 a6 a7 a8 a9 a10 a11 a12 x_many x_built x_seed x_graphSeed x_bits x_bucketMany x_width x_thrown f_keys f_some i1 i2 i3 N v12 ev12 H.size) gX8_lays_X8_gather rfl ⟨rfl, md_X8_gather⟩ ⟨Nat.le_of_ble_eq_true rfl, Nat.le_of_ble_eq_true rfl⟩ ⟨Nat.le_of_ble_eq_true rfl, Nat.le_of_ble_eq_true rfl⟩ 0 8 rfl rfl rfl rfl (Nat.le_of_ble_eq_true rfl) dX8_lays_4) ⟨rfl, rfl⟩ [0, 1, 2] (by decide) rfl rfl (fun H locs hw => ?_)
  have hw : kk_wd G A s.heap [(a0, .inr (8, [.ref a1, .int x_many, .int x_built, .int x_seed, .int x_graphSeed, .int x_bits, .int x_bucketMany, .int x_width, .ref a2, .ref a3, .ref a4, .ref a5, .ref a6, .ref a7, .ref a8, .ref a9, .ref a10, .ref a11, .ref a12, .int x_thrown])), (a1, .inl (cI, 120, .inl f_keys)), (a6, .inl (cI, 120, .inl v12.2)), (a7, .inl (cI, 120, .inl f_triedShift)), (a8, .inl (cI, 120, .inl f_triedOwner))] H locs := hw
  refine lv_istore (lv' := [(4, .int v12.1), (0, .ref a0), (1, .int i1), (2, .int i2), (3, .int i3)]) hx hb dX8_lays_7 hl (by decide) rfl (fun ls hl => ?_)
  refine lv_iconst (v := 0) hx hb dX8_lays_9 (by decide) ?_
  refine lv_istore (lv' := [(5, .int 0), (4, .int v12.1), (0, .ref a0), (1, .int i1), (2, .int i2), (3, .int i3)]) hx hb dX8_lays_10 hl (by decide) rfl (fun ls hl => ?_)
  obtain ⟨z13, hz14, hF0⟩ := kk_bind hF0
  have hL14 : ∀ (n14 : Nat) (i5_14 : Int32), kk_iter (fun (σ : Int32) => L_X8_lays_12 N x_many v12.2 f_triedOwner i2 v12.1 σ) n14 i5_14 = some z13 → ∀ (H : Heap) (locs : List Loc) (ls : Array Slot), kk_wd G A s.heap [(a0, .inr (8, [.ref a1, .int x_many, .int x_built, .int x_seed, .int x_graphSeed, .int x_bits, .int x_bucketMany, .int x_width, .ref a2, .ref a3, .ref a4, .ref a5, .ref a6, .ref a7, .ref a8, .ref a9, .ref a10, .ref a11, .ref a12, .int x_thrown])), (a1, .inl (cI, 120, .inl f_keys)), (a6, .inl (cI, 120, .inl v12.2)), (a7, .inl (cI, 120, .inl f_triedShift)), (a8, .inl (cI, 120, .inl f_triedOwner))] H locs → lv_has ls 7 [(0, .ref a0), (1, .int i1), (2, .int i2), (4, .int v12.1), (5, .int i5_14)] → W p l e (kk_rm 5 0 0 114) s m ([.ref a0, .int i1, .int i2, .int i3] : List Value).toArray below meth c H locs 0 0 Q (F0 m 12 ls []) := by
    intro n14
    induction n14 with
    | zero => intro i5_14 h; exact kk_iter0 h
    | succ n14 ih14 =>
      intro i5_14 hq H locs ls hw hl
      obtain ⟨y14, hF1, hI1⟩ := kk_iterS hq
      have hF1 : L_X8_lays_12 N x_many v12.2 f_triedOwner i2 v12.1 i5_14 = some y14 := hF1
      unfold L_X8_lays_12 at hF1
      refine lv_iload hx hb dX8_lays_12 (lv_at hl 4 rfl) ?_
      refine lv_sipush (v := 512) hx hb dX8_lays_14 (by decide) ?_
      refine lv_icmp_ge (tgt := 38) hx hb dX8_lays_17 (by decide) (fun c15 => ?_) (fun c15 => ?_)
      · have hF1 := (if_pos c15).symm.trans hF1
        have hy := Option.some.inj hF1
        subst hy
        have hz := Option.some.inj hI1
        subst hz
        exact hJ2 v12.2 f_triedShift f_triedOwner v12.1 i5_14 hF0 _ _ _ hw (lv_sub hl [0, 1, 2, 3, 4] rfl)
      · have hF1 := (if_neg c15).symm.trans hF1
        refine lv_aload_n hx hb dX8_lays_20 rfl (lv_at hl 0 rfl) ?_
        refine lv_iload hx hb dX8_lays_21 (lv_at hl 3 rfl) ?_
        refine lv_iload_n hx hb dX8_lays_23 rfl (lv_at hl 2 rfl) ?_
        refine lv_iload hx hb dX8_lays_24 (lv_at hl 4 rfl) ?_
        obtain ⟨v16, ev16, hF1⟩ := kk_bind hF1
        refine kk_callI 0 0 hw (kk_runV (As := [.int v12.1, .int i2, .int i5_14]) (rest := []) F hw hl.1 (c_X8_goes l G cI cJ ad a0 a1 a2 a3 a4 a5 a6 a7 a8 a9 a10 a11 a12 x_many x_built x_seed x_graphSeed x_bits x_bucketMany x_width x_thrown v12.2 f_triedOwner v12.1 i2 i5_14 N v16 ev16 H.size) gX8_lays_X8_goes rfl ⟨rfl, md_X8_goes⟩ ⟨Nat.le_of_ble_eq_true rfl, Nat.le_of_ble_eq_true rfl⟩ ⟨Nat.le_of_ble_eq_true rfl, Nat.le_of_ble_eq_true rfl⟩ 0 8 rfl rfl rfl rfl (Nat.le_of_ble_eq_true rfl) dX8_lays_26) ⟨rfl, rfl⟩ [0, 2, 4] (by decide) rfl rfl (fun H locs hw => ?_)
        have hw : kk_wd G A s.heap [(a0, .inr (8, [.ref a1, .int x_many, .int x_built, .int x_seed, .int x_graphSeed, .int x_bits, .int x_bucketMany, .int x_width, .ref a2, .ref a3, .ref a4, .ref a5, .ref a6, .ref a7, .ref a8, .ref a9, .ref a10, .ref a11, .ref a12, .int x_thrown])), (a1, .inl (cI, 120, .inl f_keys)), (a6, .inl (cI, 120, .inl v12.2)), (a7, .inl (cI, 120, .inl f_triedShift)), (a8, .inl (cI, 120, .inl f_triedOwner))] H locs := hw
        refine lv_if_ne (tgt := 38) hx hb dX8_lays_29 (by decide) (fun c17 => ?_) (fun c17 => ?_)
        · have hF1 := (if_neg c17).symm.trans hF1
          have hy := Option.some.inj hF1
          subst hy
          have hz := Option.some.inj hI1
          subst hz
          exact hJ2 v12.2 f_triedShift f_triedOwner v12.1 i5_14 hF0 _ _ _ hw (lv_sub hl [0, 1, 2, 3, 4] rfl)
        · have hF1 := (if_pos c17).symm.trans hF1
          refine lv_iinc (v := (i5_14 + 1)) (lv' := [(5, .int (i5_14 + 1)), (0, .ref a0), (1, .int i1), (2, .int i2), (4, .int v12.1)]) hx hb dX8_lays_32 hl (k := 4) rfl rfl (by decide) rfl (fun ls hl => ?_)
          refine lv_goto (tgt := 12) hx hb dX8_lays_35 (by decide) ?_
          have hy := Option.some.inj hF1
          subst hy
          exact ih14 (i5_14 + 1) hI1 _ _ _ hw (lv_sub hl [1, 2, 3, 4, 0] rfl)
  exact hL14 N 0 hz14 _ _ _ hw (lv_sub hl [2, 3, 4, 1, 0] rfl)
theorem ui_X8_root_X8 : ∀ w ∈ u_ws RX8 TX8 20, w ∈ wsX8_root := by decide +kernel
theorem m_X8_root_Cond_fieldLink_RX8_41_PerfectPewModel_roots_I_ : Cond.fieldLink RX8 41 "PerfectPewModel" "roots" "[I" ∈ wsX8_root := by decide +kernel
set_option maxRecDepth 100000 in
set_option maxHeartbeats 4000000 in
theorem c_X8_root (l : Launch) (G : va_G) (cI cJ : ClassId) (ad : Nat → Nat) (a0 a1 a2 a3 a4 a5 a6 a7 a8 a9 a10 a11 a12 : Nat) (x_many : Int32) (x_built : Int32) (x_seed : Int32) (x_graphSeed : Int32) (x_bits : Int32) (x_bucketMany : Int32) (x_width : Int32) (x_thrown : Int32) (f_roots : Nat → Int32) (i1 : Int32) (N : Nat) (x : Int32) (hF0 : F_X8_root N f_roots i1 = some x) : kk_I l yX8_root wsX8_root 0 0 0 0 [.ref a0, .int i1] G cI cJ ad [(a0, .inr (8, [.ref a1, .int x_many, .int x_built, .int x_seed, .int x_graphSeed, .int x_bits, .int x_bucketMany, .int x_width, .ref a2, .ref a3, .ref a4, .ref a5, .ref a6, .ref a7, .ref a8, .ref a9, .ref a10, .ref a11, .ref a12, .int x_thrown])), (a11, .inl (cI, 360, .inl f_roots))] x [(a0, .inr (8, [.ref a1, .int x_many, .int x_built, .int x_seed, .int x_graphSeed, .int x_bits, .int x_bucketMany, .int x_width, .ref a2, .ref a3, .ref a4, .ref a5, .ref a6, .ref a7, .ref a8, .ref a9, .ref a10, .ref a11, .ref a12, .int x_thrown])), (a11, .inl (cI, 360, .inl f_roots))] := by
  refine kk_ofI (cc := cX8_root) (maxL := 3) (by decide) rfl (Nat.le_of_ble_eq_true rfl) ?_
  intro p e s m below meth c A Q ls H locs hx hb hml hown hts hE hw hl hret
  have F : kk_at p m c cX8_root 3 s _ wsX8_root RX8 G cI cJ ad A := ⟨⟨hx, hb, hml, hown, hts⟩, hE⟩
  have hl : lv_has ls 3 [(0, .ref a0), (1, .int i1)] := hl
  unfold F_X8_root at hF0
  have hJ1 : ∀ (i2_1 : Int32), J_X8_root_22 N i2_1 = some x → ∀ (H : Heap) (locs : List Loc) (ls : Array Slot), kk_wd G A s.heap [(a0, .inr (8, [.ref a1, .int x_many, .int x_built, .int x_seed, .int x_graphSeed, .int x_bits, .int x_bucketMany, .int x_width, .ref a2, .ref a3, .ref a4, .ref a5, .ref a6, .ref a7, .ref a8, .ref a9, .ref a10, .ref a11, .ref a12, .int x_thrown])), (a11, .inl (cI, 360, .inl f_roots))] H locs → lv_has ls 3 [(2, .int i2_1)] → W p l e (kk_rm 0 0 0 0) s m ([.ref a0, .int i1] : List Value).toArray below meth c H locs 0 0 Q (F0 m 22 ls []) := by
    intro i2_1 hF0 H locs ls hw hl
    unfold J_X8_root_22 at hF0
    refine lv_iload_n hx hb dX8_root_22 rfl (lv_at hl 0 rfl) ?_
    have hy := Option.some.inj hF0
    subst hy
    exact hret dX8_root_23 (by decide) (by decide) hw
  refine lv_iload_n hx hb dX8_root_0 rfl (lv_at hl 1 rfl) ?_
  refine lv_istore_n (lv' := [(2, .int i1), (0, .ref a0), (1, .int i1)]) hx hb dX8_root_1 rfl hl (by decide) rfl (fun ls hl => ?_)
  obtain ⟨z2, hz3, hF0⟩ := kk_bind hF0
  have hL3 : ∀ (n3 : Nat) (i2_3 : Int32), kk_iter (fun (σ : Int32) => L_X8_root_2 N f_roots σ) n3 i2_3 = some z2 → ∀ (H : Heap) (locs : List Loc) (ls : Array Slot), kk_wd G A s.heap [(a0, .inr (8, [.ref a1, .int x_many, .int x_built, .int x_seed, .int x_graphSeed, .int x_bits, .int x_bucketMany, .int x_width, .ref a2, .ref a3, .ref a4, .ref a5, .ref a6, .ref a7, .ref a8, .ref a9, .ref a10, .ref a11, .ref a12, .int x_thrown])), (a11, .inl (cI, 360, .inl f_roots))] H locs → lv_has ls 3 [(0, .ref a0), (2, .int i2_3)] → W p l e (kk_rm 0 0 0 0) s m ([.ref a0, .int i1] : List Value).toArray below meth c H locs 0 0 Q (F0 m 2 ls []) := by
    intro n3
    induction n3 with
    | zero => intro i2_3 h; exact kk_iter0 h
    | succ n3 ih3 =>
      intro i2_3 hq H locs ls hw hl
      obtain ⟨y3, hF1, hI1⟩ := kk_iterS hq
      have hF1 : L_X8_root_2 N f_roots i2_3 = some y3 := hF1
      unfold L_X8_root_2 at hF1
      refine lv_aload_n hx hb dX8_root_2 rfl (lv_at hl 0 rfl) ?_
      refine kk_get (T := TX8) F hw ui_X8_root_X8 0 rfl rfl 17 (by decide) m_X8_root_Cond_fieldLink_RX8_41_PerfectPewModel_roots_I_ rfl dX8_root_3 ?_
      refine lv_iload_n hx hb dX8_root_6 rfl (lv_at hl 1 rfl) ?_
      obtain ⟨v4, ev4, hF1⟩ := kk_bind hF1
      refine kk_iald F hw 1 rfl ev4 dX8_root_7 ?_
      refine lv_iload_n hx hb dX8_root_8 rfl (lv_at hl 1 rfl) ?_
      refine lv_icmp_eq (tgt := 22) hx hb dX8_root_9 (by decide) (fun c5 => ?_) (fun c5 => ?_)
      · have hF1 := (if_pos c5).symm.trans hF1
        have hy := Option.some.inj hF1
        subst hy
        have hz := Option.some.inj hI1
        subst hz
        exact hJ1 i2_3 hF0 _ _ _ hw (lv_sub hl [1] rfl)
      · have hF1 := (if_neg c5).symm.trans hF1
        refine lv_aload_n hx hb dX8_root_12 rfl (lv_at hl 0 rfl) ?_
        refine kk_get (T := TX8) F hw ui_X8_root_X8 0 rfl rfl 17 (by decide) m_X8_root_Cond_fieldLink_RX8_41_PerfectPewModel_roots_I_ rfl dX8_root_13 ?_
        refine lv_iload_n hx hb dX8_root_16 rfl (lv_at hl 1 rfl) ?_
        obtain ⟨v6, ev6, hF1⟩ := kk_bind hF1
        refine kk_iald F hw 1 rfl ev6 dX8_root_17 ?_
        refine lv_istore_n (lv' := [(2, .int v6), (0, .ref a0)]) hx hb dX8_root_18 rfl hl (by decide) rfl (fun ls hl => ?_)
        refine lv_goto (tgt := 2) hx hb dX8_root_19 (by decide) ?_
        have hy := Option.some.inj hF1
        subst hy
        exact ih3 v6 hI1 _ _ _ hw (lv_sub hl [1, 0] rfl)
  exact hL3 N i1 hz3 _ _ _ hw (lv_sub hl [1, 0] rfl)
theorem ui_X8_print_X8 : ∀ w ∈ u_ws RX8 TX8 20, w ∈ wsX8_print := by decide +kernel
theorem m_X8_print_Cond_fieldLink_RX8_162_PerfectPewModel_seed_I_ : Cond.fieldLink RX8 162 "PerfectPewModel" "seed" "I" ∈ wsX8_print := by decide +kernel
theorem m_X8_print_Cond_fieldLink_RX8_168_PerfectPewModel_bits_I_ : Cond.fieldLink RX8 168 "PerfectPewModel" "bits" "I" ∈ wsX8_print := by decide +kernel
set_option maxRecDepth 100000 in
set_option maxHeartbeats 4000000 in
theorem c_X8_print (l : Launch) (G : va_G) (cI cJ : ClassId) (ad : Nat → Nat) (a0 a1 a2 a3 a4 a5 a6 a7 a8 a9 a10 a11 a12 : Nat) (x_many : Int32) (x_built : Int32) (x_seed : Int32) (x_graphSeed : Int32) (x_bits : Int32) (x_bucketMany : Int32) (x_width : Int32) (x_thrown : Int32) (i1 : Int32) (N : Nat) (x : Int32) (hF0 : F_X8_print N x_seed x_bits i1 = some x) : kk_I l yX8_print wsX8_print 2 0 0 42 [.ref a0, .int i1] G cI cJ ad [(a0, .inr (8, [.ref a1, .int x_many, .int x_built, .int x_seed, .int x_graphSeed, .int x_bits, .int x_bucketMany, .int x_width, .ref a2, .ref a3, .ref a4, .ref a5, .ref a6, .ref a7, .ref a8, .ref a9, .ref a10, .ref a11, .ref a12, .int x_thrown]))] x [(a0, .inr (8, [.ref a1, .int x_many, .int x_built, .int x_seed, .int x_graphSeed, .int x_bits, .int x_bucketMany, .int x_width, .ref a2, .ref a3, .ref a4, .ref a5, .ref a6, .ref a7, .ref a8, .ref a9, .ref a10, .ref a11, .ref a12, .int x_thrown]))] := by
  refine kk_ofI (cc := cX8_print) (maxL := 2) (by decide) rfl (Nat.le_of_ble_eq_true rfl) ?_
  intro p e s m below meth c A Q ls H locs hx hb hml hown hts hE hw hl hret
  have F : kk_at p m c cX8_print 2 s _ wsX8_print RX8 G cI cJ ad A := ⟨⟨hx, hb, hml, hown, hts⟩, hE⟩
  have hl : lv_has ls 2 [(0, .ref a0), (1, .int i1)] := hl
  unfold F_X8_print at hF0
  refine lv_iconst (v := 3) hx hb dX8_print_0 (by decide) ?_
  refine lv_iload_n hx hb dX8_print_1 rfl (lv_at hl 1 rfl) ?_
  refine lv_aload_n hx hb dX8_print_2 rfl (lv_at hl 0 rfl) ?_
  refine kk_get (T := TX8) F hw ui_X8_print_X8 0 rfl rfl 3 (by decide) m_X8_print_Cond_fieldLink_RX8_162_PerfectPewModel_seed_I_ rfl dX8_print_3 ?_
  obtain ⟨v1, ev1, hF0⟩ := kk_bind hF0
  refine kk_callI 0 0 hw (kk_runS (As := [.int 3, .int i1, .int x_seed]) (rest := []) F hw hl.1 (c_X8_hash l G cI cJ ad 3 i1 x_seed N v1 ev1 H.size) gX8_print_X8_hash rfl md_X8_hash ⟨Nat.le_of_ble_eq_true rfl, Nat.le_of_ble_eq_true rfl⟩ ⟨Nat.le_of_ble_eq_true rfl, Nat.le_of_ble_eq_true rfl⟩ rfl (Nat.le_of_ble_eq_true rfl) dX8_print_6) ⟨rfl, rfl⟩ [] (by decide) rfl rfl (fun H locs hw => ?_)
  refine lv_iconst (v := 1) hx hb dX8_print_9 (by decide) ?_
  refine lv_aload_n hx hb dX8_print_10 rfl (lv_at hl 0 rfl) ?_
  refine kk_get (T := TX8) F hw ui_X8_print_X8 0 rfl rfl 5 (by decide) m_X8_print_Cond_fieldLink_RX8_168_PerfectPewModel_bits_I_ rfl dX8_print_11 ?_
  refine lv_ishl hx hb dX8_print_14 ?_
  obtain ⟨u2, eu2, hF0⟩ := kk_bind hF0
  refine lv_irem hx hb dX8_print_15 (kk_nz_ok eu2) ?_
  have hy := Option.some.inj hF0
  subst hy
  exact hret dX8_print_16 (by decide) (by decide) hw
theorem ui_X8_reopen_X8 : ∀ w ∈ u_ws RX8 TX8 20, w ∈ wsX8_reopen := by decide +kernel
theorem m_X8_reopen_Cond_fieldLink_RX8_47_PerfectPewModel_thrown_I_ : Cond.fieldLink RX8 47 "PerfectPewModel" "thrown" "I" ∈ wsX8_reopen := by decide +kernel
theorem m_X8_reopen_Cond_fieldLink_RX8_114_PerfectPewModel_built_Z_ : Cond.fieldLink RX8 114 "PerfectPewModel" "built" "Z" ∈ wsX8_reopen := by decide +kernel
set_option maxRecDepth 100000 in
set_option maxHeartbeats 4000000 in
theorem c_X8_reopen (l : Launch) (G : va_G) (cI cJ : ClassId) (ad : Nat → Nat) (a0 a1 a2 a3 a4 a5 a6 a7 a8 a9 a10 a11 a12 : Nat) (x_many : Int32) (x_built : Int32) (x_seed : Int32) (x_graphSeed : Int32) (x_bits : Int32) (x_bucketMany : Int32) (x_width : Int32) (x_thrown : Int32) (N : Nat) (x : (Int32 × Int32)) (hF0 : F_X8_reopen N x_built x_thrown = some x) : kk_V l yX8_reopen wsX8_reopen 1 0 0 21 [.ref a0] G cI cJ ad [(a0, .inr (8, [.ref a1, .int x_many, .int x_built, .int x_seed, .int x_graphSeed, .int x_bits, .int x_bucketMany, .int x_width, .ref a2, .ref a3, .ref a4, .ref a5, .ref a6, .ref a7, .ref a8, .ref a9, .ref a10, .ref a11, .ref a12, .int x_thrown]))] [(a0, .inr (8, [.ref a1, .int x_many, .int x.1, .int x_seed, .int x_graphSeed, .int x_bits, .int x_bucketMany, .int x_width, .ref a2, .ref a3, .ref a4, .ref a5, .ref a6, .ref a7, .ref a8, .ref a9, .ref a10, .ref a11, .ref a12, .int x.2]))] := by
  refine kk_ofV (cc := cX8_reopen) (maxL := 1) (by decide) rfl (Nat.le_of_ble_eq_true rfl) ?_
  intro p e s m below meth c A Q ls H locs hx hb hml hown hts hE hw hl hret
  have F : kk_at p m c cX8_reopen 1 s _ wsX8_reopen RX8 G cI cJ ad A := ⟨⟨hx, hb, hml, hown, hts⟩, hE⟩
  have hl : lv_has ls 1 [(0, .ref a0)] := hl
  unfold F_X8_reopen at hF0
  refine lv_aload_n hx hb dX8_reopen_0 rfl (lv_at hl 0 rfl) ?_
  refine lv_iconst (v := 0) hx hb dX8_reopen_1 (by decide) ?_
  refine kk_put F hw ui_X8_reopen_X8 tyX8 tyX8_ok nmX8 0 rfl rfl 19 (by decide) m_X8_reopen_Cond_fieldLink_RX8_47_PerfectPewModel_thrown_I_ rfl rfl rfl (Nat.le_of_ble_eq_true rfl) dX8_reopen_2 (fun H locs hw => ?_)
  have hw : kk_wd G A s.heap [(a0, .inr (8, [.ref a1, .int x_many, .int x_built, .int x_seed, .int x_graphSeed, .int x_bits, .int x_bucketMany, .int x_width, .ref a2, .ref a3, .ref a4, .ref a5, .ref a6, .ref a7, .ref a8, .ref a9, .ref a10, .ref a11, .ref a12, .int 0]))] H locs := hw
  refine lv_aload_n hx hb dX8_reopen_5 rfl (lv_at hl 0 rfl) ?_
  refine kk_get (T := TX8) F hw ui_X8_reopen_X8 0 rfl rfl 2 (by decide) m_X8_reopen_Cond_fieldLink_RX8_114_PerfectPewModel_built_Z_ rfl dX8_reopen_6 ?_
  refine lv_if_ne (tgt := 19) hx hb dX8_reopen_9 (by decide) (fun c1 => ?_) (fun c1 => ?_)
  · have hF0 := (if_neg c1).symm.trans hF0
    refine lv_aload_n hx hb dX8_reopen_19 rfl (lv_at hl 0 rfl) ?_
    refine lv_iconst (v := 0) hx hb dX8_reopen_20 (by decide) ?_
    refine kk_put F hw ui_X8_reopen_X8 tyX8 tyX8_ok nmX8 0 rfl rfl 2 (by decide) m_X8_reopen_Cond_fieldLink_RX8_114_PerfectPewModel_built_Z_ rfl (by decide) (by decide) (Nat.le_of_ble_eq_true rfl) dX8_reopen_21 (fun H locs hw => ?_)
    have hw : kk_wd G A s.heap [(a0, .inr (8, [.ref a1, .int x_many, .int 0, .int x_seed, .int x_graphSeed, .int x_bits, .int x_bucketMany, .int x_width, .ref a2, .ref a3, .ref a4, .ref a5, .ref a6, .ref a7, .ref a8, .ref a9, .ref a10, .ref a11, .ref a12, .int 0]))] H locs := hw
    have hy := Option.some.inj hF0
    subst hy
    exact hret dX8_reopen_24 (by decide) (by decide) hw
  · have hF0 := (if_pos c1).symm.trans hF0
    refine lv_aload_n hx hb dX8_reopen_12 rfl (lv_at hl 0 rfl) ?_
    refine lv_iconst (v := 1) hx hb dX8_reopen_13 (by decide) ?_
    obtain ⟨v2, ev2, hF0⟩ := kk_bind hF0
    refine kk_callI 0 0 hw (kk_runV (As := [.int 1]) (rest := []) F hw hl.1 (c_X8_fails l G cI cJ ad a0 a1 a2 a3 a4 a5 a6 a7 a8 a9 a10 a11 a12 x_many x_built x_seed x_graphSeed x_bits x_bucketMany x_width 0 1 N v2 ev2 H.size) gX8_reopen_X8_fails rfl ⟨rfl, md_X8_fails⟩ ⟨Nat.le_of_ble_eq_true rfl, Nat.le_of_ble_eq_true rfl⟩ ⟨Nat.le_of_ble_eq_true rfl, Nat.le_of_ble_eq_true rfl⟩ 0 8 rfl rfl rfl rfl (Nat.le_of_ble_eq_true rfl) dX8_reopen_14) ⟨rfl, rfl⟩ [0] (by decide) rfl rfl (fun H locs hw => ?_)
    have hw : kk_wd G A s.heap [(a0, .inr (8, [.ref a1, .int x_many, .int x_built, .int x_seed, .int x_graphSeed, .int x_bits, .int x_bucketMany, .int x_width, .ref a2, .ref a3, .ref a4, .ref a5, .ref a6, .ref a7, .ref a8, .ref a9, .ref a10, .ref a11, .ref a12, .int v2.2]))] H locs := hw
    refine lv_pop hx hb dX8_reopen_17 rfl ?_
    have hy := Option.some.inj hF0
    subst hy
    exact hret dX8_reopen_18 (by decide) (by decide) hw
theorem ui_X8_isBuilt_X8 : ∀ w ∈ u_ws RX8 TX8 20, w ∈ wsX8_isBuilt := by decide +kernel
theorem m_X8_isBuilt_Cond_fieldLink_RX8_47_PerfectPewModel_thrown_I_ : Cond.fieldLink RX8 47 "PerfectPewModel" "thrown" "I" ∈ wsX8_isBuilt := by decide +kernel
theorem m_X8_isBuilt_Cond_fieldLink_RX8_114_PerfectPewModel_built_Z_ : Cond.fieldLink RX8 114 "PerfectPewModel" "built" "Z" ∈ wsX8_isBuilt := by decide +kernel
set_option maxRecDepth 100000 in
set_option maxHeartbeats 4000000 in
theorem c_X8_isBuilt (l : Launch) (G : va_G) (cI cJ : ClassId) (ad : Nat → Nat) (a0 a1 a2 a3 a4 a5 a6 a7 a8 a9 a10 a11 a12 : Nat) (x_many : Int32) (x_built : Int32) (x_seed : Int32) (x_graphSeed : Int32) (x_bits : Int32) (x_bucketMany : Int32) (x_width : Int32) (x_thrown : Int32) (N : Nat) (x : (Int32 × Int32)) (hF0 : F_X8_isBuilt N x_built x_thrown = some x) : kk_I l yX8_isBuilt wsX8_isBuilt 0 0 0 0 [.ref a0] G cI cJ ad [(a0, .inr (8, [.ref a1, .int x_many, .int x_built, .int x_seed, .int x_graphSeed, .int x_bits, .int x_bucketMany, .int x_width, .ref a2, .ref a3, .ref a4, .ref a5, .ref a6, .ref a7, .ref a8, .ref a9, .ref a10, .ref a11, .ref a12, .int x_thrown]))] x.1 [(a0, .inr (8, [.ref a1, .int x_many, .int x_built, .int x_seed, .int x_graphSeed, .int x_bits, .int x_bucketMany, .int x_width, .ref a2, .ref a3, .ref a4, .ref a5, .ref a6, .ref a7, .ref a8, .ref a9, .ref a10, .ref a11, .ref a12, .int x.2]))] := by
  refine kk_ofZ (cc := cX8_isBuilt) (maxL := 1) (by decide) rfl (Nat.le_of_ble_eq_true rfl) ?_
  intro p e s m below meth c A Q ls H locs hx hb hml hown hts hE hw hl hret
  have F : kk_at p m c cX8_isBuilt 1 s _ wsX8_isBuilt RX8 G cI cJ ad A := ⟨⟨hx, hb, hml, hown, hts⟩, hE⟩
  have hl : lv_has ls 1 [(0, .ref a0)] := hl
  unfold F_X8_isBuilt at hF0
  refine lv_aload_n hx hb dX8_isBuilt_0 rfl (lv_at hl 0 rfl) ?_
  refine lv_iconst (v := 0) hx hb dX8_isBuilt_1 (by decide) ?_
  refine kk_put F hw ui_X8_isBuilt_X8 tyX8 tyX8_ok nmX8 0 rfl rfl 19 (by decide) m_X8_isBuilt_Cond_fieldLink_RX8_47_PerfectPewModel_thrown_I_ rfl rfl rfl (Nat.le_of_ble_eq_true rfl) dX8_isBuilt_2 (fun H locs hw => ?_)
  have hw : kk_wd G A s.heap [(a0, .inr (8, [.ref a1, .int x_many, .int x_built, .int x_seed, .int x_graphSeed, .int x_bits, .int x_bucketMany, .int x_width, .ref a2, .ref a3, .ref a4, .ref a5, .ref a6, .ref a7, .ref a8, .ref a9, .ref a10, .ref a11, .ref a12, .int 0]))] H locs := hw
  refine lv_aload_n hx hb dX8_isBuilt_5 rfl (lv_at hl 0 rfl) ?_
  refine kk_get (T := TX8) F hw ui_X8_isBuilt_X8 0 rfl rfl 2 (by decide) m_X8_isBuilt_Cond_fieldLink_RX8_114_PerfectPewModel_built_Z_ rfl dX8_isBuilt_6 ?_
  obtain ⟨u1, eu1, hF0⟩ := kk_bind hF0
  have hy := Option.some.inj hF0
  subst hy
  exact hret dX8_isBuilt_9 (by decide) (by decide) (kk_bl_ok eu1) hw
theorem ui_X8_numberOf_X8 : ∀ w ∈ u_ws RX8 TX8 20, w ∈ wsX8_numberOf := by decide +kernel
theorem m_X8_numberOf_Cond_fieldLink_RX8_162_PerfectPewModel_seed_I_ : Cond.fieldLink RX8 162 "PerfectPewModel" "seed" "I" ∈ wsX8_numberOf := by decide +kernel
theorem m_X8_numberOf_Cond_fieldLink_RX8_16_PerfectPewModel_shift_I_ : Cond.fieldLink RX8 16 "PerfectPewModel" "shift" "[I" ∈ wsX8_numberOf := by decide +kernel
theorem m_X8_numberOf_Cond_fieldLink_RX8_149_PerfectPewModel_bucketMany_I_ : Cond.fieldLink RX8 149 "PerfectPewModel" "bucketMany" "I" ∈ wsX8_numberOf := by decide +kernel
theorem m_X8_numberOf_Cond_fieldLink_RX8_99_PerfectPewModel_many_I_ : Cond.fieldLink RX8 99 "PerfectPewModel" "many" "I" ∈ wsX8_numberOf := by decide +kernel
set_option maxRecDepth 100000 in
set_option maxHeartbeats 4000000 in
theorem c_X8_numberOf (l : Launch) (G : va_G) (cI cJ : ClassId) (ad : Nat → Nat) (a0 a1 a2 a3 a4 a5 a6 a7 a8 a9 a10 a11 a12 : Nat) (x_many : Int32) (x_built : Int32) (x_seed : Int32) (x_graphSeed : Int32) (x_bits : Int32) (x_bucketMany : Int32) (x_width : Int32) (x_thrown : Int32) (f_shift : Nat → Int32) (i1 : Int32) (N : Nat) (x : Int32) (hF0 : F_X8_numberOf N x_many x_seed x_bucketMany f_shift i1 = some x) : kk_I l yX8_numberOf wsX8_numberOf 4 0 0 87 [.ref a0, .int i1] G cI cJ ad [(a0, .inr (8, [.ref a1, .int x_many, .int x_built, .int x_seed, .int x_graphSeed, .int x_bits, .int x_bucketMany, .int x_width, .ref a2, .ref a3, .ref a4, .ref a5, .ref a6, .ref a7, .ref a8, .ref a9, .ref a10, .ref a11, .ref a12, .int x_thrown])), (a3, .inl (cI, 120, .inl f_shift))] x [(a0, .inr (8, [.ref a1, .int x_many, .int x_built, .int x_seed, .int x_graphSeed, .int x_bits, .int x_bucketMany, .int x_width, .ref a2, .ref a3, .ref a4, .ref a5, .ref a6, .ref a7, .ref a8, .ref a9, .ref a10, .ref a11, .ref a12, .int x_thrown])), (a3, .inl (cI, 120, .inl f_shift))] := by
  refine kk_ofI (cc := cX8_numberOf) (maxL := 2) (by decide) rfl (Nat.le_of_ble_eq_true rfl) ?_
  intro p e s m below meth c A Q ls H locs hx hb hml hown hts hE hw hl hret
  have F : kk_at p m c cX8_numberOf 2 s _ wsX8_numberOf RX8 G cI cJ ad A := ⟨⟨hx, hb, hml, hown, hts⟩, hE⟩
  have hl : lv_has ls 2 [(0, .ref a0), (1, .int i1)] := hl
  unfold F_X8_numberOf at hF0
  refine lv_iload_n hx hb dX8_numberOf_0 rfl (lv_at hl 1 rfl) ?_
  refine lv_aload_n hx hb dX8_numberOf_1 rfl (lv_at hl 0 rfl) ?_
  refine kk_get (T := TX8) F hw ui_X8_numberOf_X8 0 rfl rfl 3 (by decide) m_X8_numberOf_Cond_fieldLink_RX8_162_PerfectPewModel_seed_I_ rfl dX8_numberOf_2 ?_
  refine lv_aload_n hx hb dX8_numberOf_5 rfl (lv_at hl 0 rfl) ?_
  refine kk_get (T := TX8) F hw ui_X8_numberOf_X8 0 rfl rfl 9 (by decide) m_X8_numberOf_Cond_fieldLink_RX8_16_PerfectPewModel_shift_I_ rfl dX8_numberOf_6 ?_
  refine lv_iconst (v := 0) hx hb dX8_numberOf_9 (by decide) ?_
  refine lv_iload_n hx hb dX8_numberOf_10 rfl (lv_at hl 1 rfl) ?_
  refine lv_aload_n hx hb dX8_numberOf_11 rfl (lv_at hl 0 rfl) ?_
  refine kk_get (T := TX8) F hw ui_X8_numberOf_X8 0 rfl rfl 3 (by decide) m_X8_numberOf_Cond_fieldLink_RX8_162_PerfectPewModel_seed_I_ rfl dX8_numberOf_12 ?_
  obtain ⟨v1, ev1, hF0⟩ := kk_bind hF0
  refine kk_callI 0 0 hw (kk_runS (As := [.int 0, .int i1, .int x_seed]) (rest := [.ref a3, .int x_seed, .int i1]) F hw hl.1 (c_X8_hash l G cI cJ ad 0 i1 x_seed N v1 ev1 H.size) gX8_numberOf_X8_hash rfl md_X8_hash ⟨Nat.le_of_ble_eq_true rfl, Nat.le_of_ble_eq_true rfl⟩ ⟨Nat.le_of_ble_eq_true rfl, Nat.le_of_ble_eq_true rfl⟩ rfl (Nat.le_of_ble_eq_true rfl) dX8_numberOf_15) ⟨rfl, rfl⟩ [] (by decide) rfl rfl (fun H locs hw => ?_)
  refine lv_aload_n hx hb dX8_numberOf_18 rfl (lv_at hl 0 rfl) ?_
  refine kk_get (T := TX8) F hw ui_X8_numberOf_X8 0 rfl rfl 6 (by decide) m_X8_numberOf_Cond_fieldLink_RX8_149_PerfectPewModel_bucketMany_I_ rfl dX8_numberOf_19 ?_
  obtain ⟨u2, eu2, hF0⟩ := kk_bind hF0
  refine lv_irem hx hb dX8_numberOf_22 (kk_nz_ok eu2) ?_
  obtain ⟨v3, ev3, hF0⟩ := kk_bind hF0
  refine kk_iald F hw 1 rfl ev3 dX8_numberOf_23 ?_
  refine lv_aload_n hx hb dX8_numberOf_24 rfl (lv_at hl 0 rfl) ?_
  refine kk_get (T := TX8) F hw ui_X8_numberOf_X8 0 rfl rfl 1 (by decide) m_X8_numberOf_Cond_fieldLink_RX8_99_PerfectPewModel_many_I_ rfl dX8_numberOf_25 ?_
  obtain ⟨v4, ev4, hF0⟩ := kk_bind hF0
  refine kk_callI 0 0 hw (kk_runS (As := [.int i1, .int x_seed, .int v3, .int x_many]) (rest := []) F hw hl.1 (c_X8_place l G cI cJ ad i1 x_seed v3 x_many N v4 ev4 H.size) gX8_numberOf_X8_place rfl md_X8_place ⟨Nat.le_of_ble_eq_true rfl, Nat.le_of_ble_eq_true rfl⟩ ⟨Nat.le_of_ble_eq_true rfl, Nat.le_of_ble_eq_true rfl⟩ rfl (Nat.le_of_ble_eq_true rfl) dX8_numberOf_28) ⟨rfl, rfl⟩ [] (by decide) rfl rfl (fun H locs hw => ?_)
  have hy := Option.some.inj hF0
  subst hy
  exact hret dX8_numberOf_31 (by decide) (by decide) hw
theorem ui_X8_found_X8 : ∀ w ∈ u_ws RX8 TX8 20, w ∈ wsX8_found := by decide +kernel
theorem m_X8_found_Cond_fieldLink_RX8_22_PerfectPewModel_prints_I_ : Cond.fieldLink RX8 22 "PerfectPewModel" "prints" "[I" ∈ wsX8_found := by decide +kernel
set_option maxRecDepth 100000 in
set_option maxHeartbeats 4000000 in
theorem c_X8_found (l : Launch) (G : va_G) (cI cJ : ClassId) (ad : Nat → Nat) (a0 a1 a2 a3 a4 a5 a6 a7 a8 a9 a10 a11 a12 : Nat) (x_many : Int32) (x_built : Int32) (x_seed : Int32) (x_graphSeed : Int32) (x_bits : Int32) (x_bucketMany : Int32) (x_width : Int32) (x_thrown : Int32) (f_shift : Nat → Int32) (f_prints : Nat → Int32) (i1 : Int32) (N : Nat) (x : Int32) (hF0 : F_X8_found N x_many x_seed x_bits x_bucketMany f_shift f_prints i1 = some x) : kk_I l yX8_found wsX8_found 5 0 0 108 [.ref a0, .int i1] G cI cJ ad [(a0, .inr (8, [.ref a1, .int x_many, .int x_built, .int x_seed, .int x_graphSeed, .int x_bits, .int x_bucketMany, .int x_width, .ref a2, .ref a3, .ref a4, .ref a5, .ref a6, .ref a7, .ref a8, .ref a9, .ref a10, .ref a11, .ref a12, .int x_thrown])), (a3, .inl (cI, 120, .inl f_shift)), (a5, .inl (cI, 120, .inl f_prints))] x [(a0, .inr (8, [.ref a1, .int x_many, .int x_built, .int x_seed, .int x_graphSeed, .int x_bits, .int x_bucketMany, .int x_width, .ref a2, .ref a3, .ref a4, .ref a5, .ref a6, .ref a7, .ref a8, .ref a9, .ref a10, .ref a11, .ref a12, .int x_thrown])), (a3, .inl (cI, 120, .inl f_shift)), (a5, .inl (cI, 120, .inl f_prints))] := by
  refine kk_ofI (cc := cX8_found) (maxL := 3) (by decide) rfl (Nat.le_of_ble_eq_true rfl) ?_
  intro p e s m below meth c A Q ls H locs hx hb hml hown hts hE hw hl hret
  have F : kk_at p m c cX8_found 3 s _ wsX8_found RX8 G cI cJ ad A := ⟨⟨hx, hb, hml, hown, hts⟩, hE⟩
  have hl : lv_has ls 3 [(0, .ref a0), (1, .int i1)] := hl
  unfold F_X8_found at hF0
  have hJ1 : ∀ (s0_1 : Int32), J_X8_found_25 N s0_1 = some x → ∀ (H : Heap) (locs : List Loc) (ls : Array Slot), kk_wd G A s.heap [(a0, .inr (8, [.ref a1, .int x_many, .int x_built, .int x_seed, .int x_graphSeed, .int x_bits, .int x_bucketMany, .int x_width, .ref a2, .ref a3, .ref a4, .ref a5, .ref a6, .ref a7, .ref a8, .ref a9, .ref a10, .ref a11, .ref a12, .int x_thrown])), (a3, .inl (cI, 120, .inl f_shift)), (a5, .inl (cI, 120, .inl f_prints))] H locs → lv_has ls 3 [] → W p l e (kk_rm 5 0 0 108) s m ([.ref a0, .int i1] : List Value).toArray below meth c H locs 0 0 Q (F0 m 25 ls [.int s0_1]) := by
    intro s0_1 hF0 H locs ls hw hl
    unfold J_X8_found_25 at hF0
    have hy := Option.some.inj hF0
    subst hy
    exact hret dX8_found_25 (by decide) (by decide) hw
  refine lv_aload_n hx hb dX8_found_0 rfl (lv_at hl 0 rfl) ?_
  refine lv_iload_n hx hb dX8_found_1 rfl (lv_at hl 1 rfl) ?_
  obtain ⟨v2, ev2, hF0⟩ := kk_bind hF0
  refine kk_callI 0 0 hw (kk_runV (As := [.int i1]) (rest := []) F hw hl.1 (c_X8_numberOf l G cI cJ ad a0 a1 a2 a3 a4 a5 a6 a7 a8 a9 a10 a11 a12 x_many x_built x_seed x_graphSeed x_bits x_bucketMany x_width x_thrown f_shift i1 N v2 ev2 H.size) gX8_found_X8_numberOf rfl ⟨rfl, md_X8_numberOf⟩ ⟨Nat.le_of_ble_eq_true rfl, Nat.le_of_ble_eq_true rfl⟩ ⟨Nat.le_of_ble_eq_true rfl, Nat.le_of_ble_eq_true rfl⟩ 0 8 rfl rfl rfl rfl (Nat.le_of_ble_eq_true rfl) dX8_found_2) ⟨rfl, rfl⟩ [0, 1] (by decide) rfl rfl (fun H locs hw => ?_)
  have hw : kk_wd G A s.heap [(a0, .inr (8, [.ref a1, .int x_many, .int x_built, .int x_seed, .int x_graphSeed, .int x_bits, .int x_bucketMany, .int x_width, .ref a2, .ref a3, .ref a4, .ref a5, .ref a6, .ref a7, .ref a8, .ref a9, .ref a10, .ref a11, .ref a12, .int x_thrown])), (a3, .inl (cI, 120, .inl f_shift)), (a5, .inl (cI, 120, .inl f_prints))] H locs := hw
  refine lv_istore_n (lv' := [(2, .int v2), (0, .ref a0), (1, .int i1)]) hx hb dX8_found_5 rfl hl (by decide) rfl (fun ls hl => ?_)
  refine lv_aload_n hx hb dX8_found_6 rfl (lv_at hl 1 rfl) ?_
  refine kk_get (T := TX8) F hw ui_X8_found_X8 0 rfl rfl 11 (by decide) m_X8_found_Cond_fieldLink_RX8_22_PerfectPewModel_prints_I_ rfl dX8_found_7 ?_
  refine lv_iload_n hx hb dX8_found_10 rfl (lv_at hl 0 rfl) ?_
  obtain ⟨v3, ev3, hF0⟩ := kk_bind hF0
  refine kk_iald F hw 2 rfl ev3 dX8_found_11 ?_
  refine lv_aload_n hx hb dX8_found_12 rfl (lv_at hl 1 rfl) ?_
  refine lv_iload_n hx hb dX8_found_13 rfl (lv_at hl 2 rfl) ?_
  obtain ⟨v4, ev4, hF0⟩ := kk_bind hF0
  refine kk_callI 0 0 hw (kk_runV (As := [.int i1]) (rest := [.int v3]) F hw hl.1 (c_X8_print l G cI cJ ad a0 a1 a2 a3 a4 a5 a6 a7 a8 a9 a10 a11 a12 x_many x_built x_seed x_graphSeed x_bits x_bucketMany x_width x_thrown i1 N v4 ev4 H.size) gX8_found_X8_print rfl ⟨rfl, md_X8_print⟩ ⟨Nat.le_of_ble_eq_true rfl, Nat.le_of_ble_eq_true rfl⟩ ⟨Nat.le_of_ble_eq_true rfl, Nat.le_of_ble_eq_true rfl⟩ 0 8 rfl rfl rfl rfl (Nat.le_of_ble_eq_true rfl) dX8_found_14) ⟨rfl, rfl⟩ [0] (by decide) rfl rfl (fun H locs hw => ?_)
  have hw : kk_wd G A s.heap [(a0, .inr (8, [.ref a1, .int x_many, .int x_built, .int x_seed, .int x_graphSeed, .int x_bits, .int x_bucketMany, .int x_width, .ref a2, .ref a3, .ref a4, .ref a5, .ref a6, .ref a7, .ref a8, .ref a9, .ref a10, .ref a11, .ref a12, .int x_thrown])), (a3, .inl (cI, 120, .inl f_shift)), (a5, .inl (cI, 120, .inl f_prints))] H locs := hw
  refine lv_icmp_ne (tgt := 24) hx hb dX8_found_17 (by decide) (fun c5 => ?_) (fun c5 => ?_)
  · have hF0 := (if_neg c5).symm.trans hF0
    refine lv_iconst (v := (-1)) hx hb dX8_found_24 (by decide) ?_
    exact hJ1 (-1) hF0 _ _ _ hw (lv_sub hl [] rfl)
  · have hF0 := (if_pos c5).symm.trans hF0
    refine lv_iload_n hx hb dX8_found_20 rfl (lv_at hl 0 rfl) ?_
    refine lv_goto (tgt := 25) hx hb dX8_found_21 (by decide) ?_
    exact hJ1 v2 hF0 _ _ _ hw (lv_sub hl [] rfl)
theorem ui_X8_number_X8 : ∀ w ∈ u_ws RX8 TX8 20, w ∈ wsX8_number := by decide +kernel
theorem m_X8_number_Cond_fieldLink_RX8_47_PerfectPewModel_thrown_I_ : Cond.fieldLink RX8 47 "PerfectPewModel" "thrown" "I" ∈ wsX8_number := by decide +kernel
theorem m_X8_number_Cond_constant_RX8_106_99999_ : Cond.constant RX8 106 (99999) ∈ wsX8_number := by decide +kernel
theorem m_X8_number_Cond_fieldLink_RX8_114_PerfectPewModel_built_Z_ : Cond.fieldLink RX8 114 "PerfectPewModel" "built" "Z" ∈ wsX8_number := by decide +kernel
set_option maxRecDepth 100000 in
set_option maxHeartbeats 4000000 in
theorem c_X8_number (l : Launch) (G : va_G) (cI cJ : ClassId) (ad : Nat → Nat) (a0 a1 a2 a3 a4 a5 a6 a7 a8 a9 a10 a11 a12 : Nat) (x_many : Int32) (x_built : Int32) (x_seed : Int32) (x_graphSeed : Int32) (x_bits : Int32) (x_bucketMany : Int32) (x_width : Int32) (x_thrown : Int32) (f_shift : Nat → Int32) (i1 : Int32) (N : Nat) (x : (Int32 × Int32)) (hF0 : F_X8_number N x_many x_built x_seed x_bucketMany x_thrown f_shift i1 = some x) : kk_I l yX8_number wsX8_number 5 0 0 108 [.ref a0, .int i1] G cI cJ ad [(a0, .inr (8, [.ref a1, .int x_many, .int x_built, .int x_seed, .int x_graphSeed, .int x_bits, .int x_bucketMany, .int x_width, .ref a2, .ref a3, .ref a4, .ref a5, .ref a6, .ref a7, .ref a8, .ref a9, .ref a10, .ref a11, .ref a12, .int x_thrown])), (a3, .inl (cI, 120, .inl f_shift))] x.1 [(a0, .inr (8, [.ref a1, .int x_many, .int x_built, .int x_seed, .int x_graphSeed, .int x_bits, .int x_bucketMany, .int x_width, .ref a2, .ref a3, .ref a4, .ref a5, .ref a6, .ref a7, .ref a8, .ref a9, .ref a10, .ref a11, .ref a12, .int x.2])), (a3, .inl (cI, 120, .inl f_shift))] := by
  refine kk_ofI (cc := cX8_number) (maxL := 2) (by decide) rfl (Nat.le_of_ble_eq_true rfl) ?_
  intro p e s m below meth c A Q ls H locs hx hb hml hown hts hE hw hl hret
  have F : kk_at p m c cX8_number 2 s _ wsX8_number RX8 G cI cJ ad A := ⟨⟨hx, hb, hml, hown, hts⟩, hE⟩
  have hl : lv_has ls 2 [(0, .ref a0), (1, .int i1)] := hl
  unfold F_X8_number at hF0
  have hJ1 : ∀ (x_thrown_1 : Int32) (s0_1 : Int32), J_X8_number_41 N x_thrown_1 s0_1 = some x → ∀ (H : Heap) (locs : List Loc) (ls : Array Slot), kk_wd G A s.heap [(a0, .inr (8, [.ref a1, .int x_many, .int x_built, .int x_seed, .int x_graphSeed, .int x_bits, .int x_bucketMany, .int x_width, .ref a2, .ref a3, .ref a4, .ref a5, .ref a6, .ref a7, .ref a8, .ref a9, .ref a10, .ref a11, .ref a12, .int x_thrown_1])), (a3, .inl (cI, 120, .inl f_shift))] H locs → lv_has ls 2 [] → W p l e (kk_rm 5 0 0 108) s m ([.ref a0, .int i1] : List Value).toArray below meth c H locs 0 0 Q (F0 m 41 ls [.int s0_1]) := by
    intro x_thrown_1 s0_1 hF0 H locs ls hw hl
    unfold J_X8_number_41 at hF0
    have hy := Option.some.inj hF0
    subst hy
    exact hret dX8_number_41 (by decide) (by decide) hw
  refine lv_aload_n hx hb dX8_number_0 rfl (lv_at hl 0 rfl) ?_
  refine lv_iconst (v := 0) hx hb dX8_number_1 (by decide) ?_
  refine kk_put F hw ui_X8_number_X8 tyX8 tyX8_ok nmX8 0 rfl rfl 19 (by decide) m_X8_number_Cond_fieldLink_RX8_47_PerfectPewModel_thrown_I_ rfl rfl rfl (Nat.le_of_ble_eq_true rfl) dX8_number_2 (fun H locs hw => ?_)
  have hw : kk_wd G A s.heap [(a0, .inr (8, [.ref a1, .int x_many, .int x_built, .int x_seed, .int x_graphSeed, .int x_bits, .int x_bucketMany, .int x_width, .ref a2, .ref a3, .ref a4, .ref a5, .ref a6, .ref a7, .ref a8, .ref a9, .ref a10, .ref a11, .ref a12, .int 0])), (a3, .inl (cI, 120, .inl f_shift))] H locs := hw
  refine lv_iload_n hx hb dX8_number_5 rfl (lv_at hl 1 rfl) ?_
  refine lv_iconst (v := 0) hx hb dX8_number_6 (by decide) ?_
  refine lv_ldc hx hb hown (hts _ m_X8_number_Cond_constant_RX8_106_99999_) dX8_number_7 ?_
  obtain ⟨v2, ev2, hF0⟩ := kk_bind hF0
  refine kk_callI 0 0 hw (kk_runS (As := [.int i1, .int 0, .int 99999]) (rest := []) F hw hl.1 (c_X8_in l G cI cJ ad i1 0 99999 N v2 ev2 H.size) gX8_number_X8_in rfl md_X8_in ⟨Nat.le_of_ble_eq_true rfl, Nat.le_of_ble_eq_true rfl⟩ ⟨Nat.le_of_ble_eq_true rfl, Nat.le_of_ble_eq_true rfl⟩ rfl (Nat.le_of_ble_eq_true rfl) dX8_number_9) ⟨rfl, rfl⟩ [] (by decide) rfl rfl (fun H locs hw => ?_)
  refine lv_if_ne (tgt := 21) hx hb dX8_number_12 (by decide) (fun c3 => ?_) (fun c3 => ?_)
  · have hF0 := (if_neg c3).symm.trans hF0
    refine lv_aload_n hx hb dX8_number_21 rfl (lv_at hl 0 rfl) ?_
    refine kk_get (T := TX8) F hw ui_X8_number_X8 0 rfl rfl 2 (by decide) m_X8_number_Cond_fieldLink_RX8_114_PerfectPewModel_built_Z_ rfl dX8_number_22 ?_
    refine lv_if_eq (tgt := 36) hx hb dX8_number_25 (by decide) (fun c4 => ?_) (fun c4 => ?_)
    · have hF0 := (if_pos c4).symm.trans hF0
      refine lv_aload_n hx hb dX8_number_36 rfl (lv_at hl 0 rfl) ?_
      refine lv_iconst (v := 2) hx hb dX8_number_37 (by decide) ?_
      obtain ⟨v5, ev5, hF0⟩ := kk_bind hF0
      refine kk_callI 0 0 hw (kk_runV (As := [.int 2]) (rest := []) F hw hl.1 (c_X8_fails l G cI cJ ad a0 a1 a2 a3 a4 a5 a6 a7 a8 a9 a10 a11 a12 x_many x_built x_seed x_graphSeed x_bits x_bucketMany x_width 0 2 N v5 ev5 H.size) gX8_number_X8_fails rfl ⟨rfl, md_X8_fails⟩ ⟨Nat.le_of_ble_eq_true rfl, Nat.le_of_ble_eq_true rfl⟩ ⟨Nat.le_of_ble_eq_true rfl, Nat.le_of_ble_eq_true rfl⟩ 0 8 rfl rfl rfl rfl (Nat.le_of_ble_eq_true rfl) dX8_number_38) ⟨rfl, rfl⟩ [0] (by decide) rfl rfl (fun H locs hw => ?_)
      have hw : kk_wd G A s.heap [(a0, .inr (8, [.ref a1, .int x_many, .int x_built, .int x_seed, .int x_graphSeed, .int x_bits, .int x_bucketMany, .int x_width, .ref a2, .ref a3, .ref a4, .ref a5, .ref a6, .ref a7, .ref a8, .ref a9, .ref a10, .ref a11, .ref a12, .int v5.2])), (a3, .inl (cI, 120, .inl f_shift))] H locs := hw
      exact hJ1 v5.2 v5.1 hF0 _ _ _ hw (lv_sub hl [] rfl)
    · have hF0 := (if_neg c4).symm.trans hF0
      refine lv_aload_n hx hb dX8_number_28 rfl (lv_at hl 0 rfl) ?_
      refine lv_iload_n hx hb dX8_number_29 rfl (lv_at hl 1 rfl) ?_
      obtain ⟨v6, ev6, hF0⟩ := kk_bind hF0
      refine kk_callI 0 0 hw (kk_runV (As := [.int i1]) (rest := []) F hw hl.1 (c_X8_numberOf l G cI cJ ad a0 a1 a2 a3 a4 a5 a6 a7 a8 a9 a10 a11 a12 x_many x_built x_seed x_graphSeed x_bits x_bucketMany x_width 0 f_shift i1 N v6 ev6 H.size) gX8_number_X8_numberOf rfl ⟨rfl, md_X8_numberOf⟩ ⟨Nat.le_of_ble_eq_true rfl, Nat.le_of_ble_eq_true rfl⟩ ⟨Nat.le_of_ble_eq_true rfl, Nat.le_of_ble_eq_true rfl⟩ 0 8 rfl rfl rfl rfl (Nat.le_of_ble_eq_true rfl) dX8_number_30) ⟨rfl, rfl⟩ [0, 1] (by decide) rfl rfl (fun H locs hw => ?_)
      have hw : kk_wd G A s.heap [(a0, .inr (8, [.ref a1, .int x_many, .int x_built, .int x_seed, .int x_graphSeed, .int x_bits, .int x_bucketMany, .int x_width, .ref a2, .ref a3, .ref a4, .ref a5, .ref a6, .ref a7, .ref a8, .ref a9, .ref a10, .ref a11, .ref a12, .int 0])), (a3, .inl (cI, 120, .inl f_shift))] H locs := hw
      refine lv_goto (tgt := 41) hx hb dX8_number_33 (by decide) ?_
      exact hJ1 0 v6 hF0 _ _ _ hw (lv_sub hl [] rfl)
  · have hF0 := (if_pos c3).symm.trans hF0
    refine lv_aload_n hx hb dX8_number_15 rfl (lv_at hl 0 rfl) ?_
    refine lv_iconst (v := 1) hx hb dX8_number_16 (by decide) ?_
    obtain ⟨v7, ev7, hF0⟩ := kk_bind hF0
    refine kk_callI 0 0 hw (kk_runV (As := [.int 1]) (rest := []) F hw hl.1 (c_X8_fails l G cI cJ ad a0 a1 a2 a3 a4 a5 a6 a7 a8 a9 a10 a11 a12 x_many x_built x_seed x_graphSeed x_bits x_bucketMany x_width 0 1 N v7 ev7 H.size) gX8_number_X8_fails rfl ⟨rfl, md_X8_fails⟩ ⟨Nat.le_of_ble_eq_true rfl, Nat.le_of_ble_eq_true rfl⟩ ⟨Nat.le_of_ble_eq_true rfl, Nat.le_of_ble_eq_true rfl⟩ 0 8 rfl rfl rfl rfl (Nat.le_of_ble_eq_true rfl) dX8_number_17) ⟨rfl, rfl⟩ [0] (by decide) rfl rfl (fun H locs hw => ?_)
    have hw : kk_wd G A s.heap [(a0, .inr (8, [.ref a1, .int x_many, .int x_built, .int x_seed, .int x_graphSeed, .int x_bits, .int x_bucketMany, .int x_width, .ref a2, .ref a3, .ref a4, .ref a5, .ref a6, .ref a7, .ref a8, .ref a9, .ref a10, .ref a11, .ref a12, .int v7.2])), (a3, .inl (cI, 120, .inl f_shift))] H locs := hw
    have hy := Option.some.inj hF0
    subst hy
    exact hret dX8_number_20 (by decide) (by decide) hw
theorem ui_X8_find_X8 : ∀ w ∈ u_ws RX8 TX8 20, w ∈ wsX8_find := by decide +kernel
theorem m_X8_find_Cond_fieldLink_RX8_47_PerfectPewModel_thrown_I_ : Cond.fieldLink RX8 47 "PerfectPewModel" "thrown" "I" ∈ wsX8_find := by decide +kernel
theorem m_X8_find_Cond_constant_RX8_106_99999_ : Cond.constant RX8 106 (99999) ∈ wsX8_find := by decide +kernel
theorem m_X8_find_Cond_fieldLink_RX8_114_PerfectPewModel_built_Z_ : Cond.fieldLink RX8 114 "PerfectPewModel" "built" "Z" ∈ wsX8_find := by decide +kernel
set_option maxRecDepth 100000 in
set_option maxHeartbeats 4000000 in
theorem c_X8_find (l : Launch) (G : va_G) (cI cJ : ClassId) (ad : Nat → Nat) (a0 a1 a2 a3 a4 a5 a6 a7 a8 a9 a10 a11 a12 : Nat) (x_many : Int32) (x_built : Int32) (x_seed : Int32) (x_graphSeed : Int32) (x_bits : Int32) (x_bucketMany : Int32) (x_width : Int32) (x_thrown : Int32) (f_shift : Nat → Int32) (f_prints : Nat → Int32) (i1 : Int32) (N : Nat) (x : (Int32 × Int32)) (hF0 : F_X8_find N x_many x_built x_seed x_bits x_bucketMany x_thrown f_shift f_prints i1 = some x) : kk_I l yX8_find wsX8_find 6 0 0 130 [.ref a0, .int i1] G cI cJ ad [(a0, .inr (8, [.ref a1, .int x_many, .int x_built, .int x_seed, .int x_graphSeed, .int x_bits, .int x_bucketMany, .int x_width, .ref a2, .ref a3, .ref a4, .ref a5, .ref a6, .ref a7, .ref a8, .ref a9, .ref a10, .ref a11, .ref a12, .int x_thrown])), (a3, .inl (cI, 120, .inl f_shift)), (a5, .inl (cI, 120, .inl f_prints))] x.1 [(a0, .inr (8, [.ref a1, .int x_many, .int x_built, .int x_seed, .int x_graphSeed, .int x_bits, .int x_bucketMany, .int x_width, .ref a2, .ref a3, .ref a4, .ref a5, .ref a6, .ref a7, .ref a8, .ref a9, .ref a10, .ref a11, .ref a12, .int x.2])), (a3, .inl (cI, 120, .inl f_shift)), (a5, .inl (cI, 120, .inl f_prints))] := by
  refine kk_ofI (cc := cX8_find) (maxL := 2) (by decide) rfl (Nat.le_of_ble_eq_true rfl) ?_
  intro p e s m below meth c A Q ls H locs hx hb hml hown hts hE hw hl hret
  have F : kk_at p m c cX8_find 2 s _ wsX8_find RX8 G cI cJ ad A := ⟨⟨hx, hb, hml, hown, hts⟩, hE⟩
  have hl : lv_has ls 2 [(0, .ref a0), (1, .int i1)] := hl
  unfold F_X8_find at hF0
  have hJ1 : ∀ (x_thrown_1 : Int32) (s0_1 : Int32), J_X8_find_41 N x_thrown_1 s0_1 = some x → ∀ (H : Heap) (locs : List Loc) (ls : Array Slot), kk_wd G A s.heap [(a0, .inr (8, [.ref a1, .int x_many, .int x_built, .int x_seed, .int x_graphSeed, .int x_bits, .int x_bucketMany, .int x_width, .ref a2, .ref a3, .ref a4, .ref a5, .ref a6, .ref a7, .ref a8, .ref a9, .ref a10, .ref a11, .ref a12, .int x_thrown_1])), (a3, .inl (cI, 120, .inl f_shift)), (a5, .inl (cI, 120, .inl f_prints))] H locs → lv_has ls 2 [] → W p l e (kk_rm 6 0 0 130) s m ([.ref a0, .int i1] : List Value).toArray below meth c H locs 0 0 Q (F0 m 41 ls [.int s0_1]) := by
    intro x_thrown_1 s0_1 hF0 H locs ls hw hl
    unfold J_X8_find_41 at hF0
    have hy := Option.some.inj hF0
    subst hy
    exact hret dX8_find_41 (by decide) (by decide) hw
  refine lv_aload_n hx hb dX8_find_0 rfl (lv_at hl 0 rfl) ?_
  refine lv_iconst (v := 0) hx hb dX8_find_1 (by decide) ?_
  refine kk_put F hw ui_X8_find_X8 tyX8 tyX8_ok nmX8 0 rfl rfl 19 (by decide) m_X8_find_Cond_fieldLink_RX8_47_PerfectPewModel_thrown_I_ rfl rfl rfl (Nat.le_of_ble_eq_true rfl) dX8_find_2 (fun H locs hw => ?_)
  have hw : kk_wd G A s.heap [(a0, .inr (8, [.ref a1, .int x_many, .int x_built, .int x_seed, .int x_graphSeed, .int x_bits, .int x_bucketMany, .int x_width, .ref a2, .ref a3, .ref a4, .ref a5, .ref a6, .ref a7, .ref a8, .ref a9, .ref a10, .ref a11, .ref a12, .int 0])), (a3, .inl (cI, 120, .inl f_shift)), (a5, .inl (cI, 120, .inl f_prints))] H locs := hw
  refine lv_iload_n hx hb dX8_find_5 rfl (lv_at hl 1 rfl) ?_
  refine lv_iconst (v := 0) hx hb dX8_find_6 (by decide) ?_
  refine lv_ldc hx hb hown (hts _ m_X8_find_Cond_constant_RX8_106_99999_) dX8_find_7 ?_
  obtain ⟨v2, ev2, hF0⟩ := kk_bind hF0
  refine kk_callI 0 0 hw (kk_runS (As := [.int i1, .int 0, .int 99999]) (rest := []) F hw hl.1 (c_X8_in l G cI cJ ad i1 0 99999 N v2 ev2 H.size) gX8_find_X8_in rfl md_X8_in ⟨Nat.le_of_ble_eq_true rfl, Nat.le_of_ble_eq_true rfl⟩ ⟨Nat.le_of_ble_eq_true rfl, Nat.le_of_ble_eq_true rfl⟩ rfl (Nat.le_of_ble_eq_true rfl) dX8_find_9) ⟨rfl, rfl⟩ [] (by decide) rfl rfl (fun H locs hw => ?_)
  refine lv_if_ne (tgt := 21) hx hb dX8_find_12 (by decide) (fun c3 => ?_) (fun c3 => ?_)
  · have hF0 := (if_neg c3).symm.trans hF0
    refine lv_aload_n hx hb dX8_find_21 rfl (lv_at hl 0 rfl) ?_
    refine kk_get (T := TX8) F hw ui_X8_find_X8 0 rfl rfl 2 (by decide) m_X8_find_Cond_fieldLink_RX8_114_PerfectPewModel_built_Z_ rfl dX8_find_22 ?_
    refine lv_if_eq (tgt := 36) hx hb dX8_find_25 (by decide) (fun c4 => ?_) (fun c4 => ?_)
    · have hF0 := (if_pos c4).symm.trans hF0
      refine lv_aload_n hx hb dX8_find_36 rfl (lv_at hl 0 rfl) ?_
      refine lv_iconst (v := 2) hx hb dX8_find_37 (by decide) ?_
      obtain ⟨v5, ev5, hF0⟩ := kk_bind hF0
      refine kk_callI 0 0 hw (kk_runV (As := [.int 2]) (rest := []) F hw hl.1 (c_X8_fails l G cI cJ ad a0 a1 a2 a3 a4 a5 a6 a7 a8 a9 a10 a11 a12 x_many x_built x_seed x_graphSeed x_bits x_bucketMany x_width 0 2 N v5 ev5 H.size) gX8_find_X8_fails rfl ⟨rfl, md_X8_fails⟩ ⟨Nat.le_of_ble_eq_true rfl, Nat.le_of_ble_eq_true rfl⟩ ⟨Nat.le_of_ble_eq_true rfl, Nat.le_of_ble_eq_true rfl⟩ 0 8 rfl rfl rfl rfl (Nat.le_of_ble_eq_true rfl) dX8_find_38) ⟨rfl, rfl⟩ [0] (by decide) rfl rfl (fun H locs hw => ?_)
      have hw : kk_wd G A s.heap [(a0, .inr (8, [.ref a1, .int x_many, .int x_built, .int x_seed, .int x_graphSeed, .int x_bits, .int x_bucketMany, .int x_width, .ref a2, .ref a3, .ref a4, .ref a5, .ref a6, .ref a7, .ref a8, .ref a9, .ref a10, .ref a11, .ref a12, .int v5.2])), (a3, .inl (cI, 120, .inl f_shift)), (a5, .inl (cI, 120, .inl f_prints))] H locs := hw
      exact hJ1 v5.2 v5.1 hF0 _ _ _ hw (lv_sub hl [] rfl)
    · have hF0 := (if_neg c4).symm.trans hF0
      refine lv_aload_n hx hb dX8_find_28 rfl (lv_at hl 0 rfl) ?_
      refine lv_iload_n hx hb dX8_find_29 rfl (lv_at hl 1 rfl) ?_
      obtain ⟨v6, ev6, hF0⟩ := kk_bind hF0
      refine kk_callI 0 0 hw (kk_runV (As := [.int i1]) (rest := []) F hw hl.1 (c_X8_found l G cI cJ ad a0 a1 a2 a3 a4 a5 a6 a7 a8 a9 a10 a11 a12 x_many x_built x_seed x_graphSeed x_bits x_bucketMany x_width 0 f_shift f_prints i1 N v6 ev6 H.size) gX8_find_X8_found rfl ⟨rfl, md_X8_found⟩ ⟨Nat.le_of_ble_eq_true rfl, Nat.le_of_ble_eq_true rfl⟩ ⟨Nat.le_of_ble_eq_true rfl, Nat.le_of_ble_eq_true rfl⟩ 0 8 rfl rfl rfl rfl (Nat.le_of_ble_eq_true rfl) dX8_find_30) ⟨rfl, rfl⟩ [0, 1, 2] (by decide) rfl rfl (fun H locs hw => ?_)
      have hw : kk_wd G A s.heap [(a0, .inr (8, [.ref a1, .int x_many, .int x_built, .int x_seed, .int x_graphSeed, .int x_bits, .int x_bucketMany, .int x_width, .ref a2, .ref a3, .ref a4, .ref a5, .ref a6, .ref a7, .ref a8, .ref a9, .ref a10, .ref a11, .ref a12, .int 0])), (a3, .inl (cI, 120, .inl f_shift)), (a5, .inl (cI, 120, .inl f_prints))] H locs := hw
      refine lv_goto (tgt := 41) hx hb dX8_find_33 (by decide) ?_
      exact hJ1 0 v6 hF0 _ _ _ hw (lv_sub hl [] rfl)
  · have hF0 := (if_pos c3).symm.trans hF0
    refine lv_aload_n hx hb dX8_find_15 rfl (lv_at hl 0 rfl) ?_
    refine lv_iconst (v := 1) hx hb dX8_find_16 (by decide) ?_
    obtain ⟨v7, ev7, hF0⟩ := kk_bind hF0
    refine kk_callI 0 0 hw (kk_runV (As := [.int 1]) (rest := []) F hw hl.1 (c_X8_fails l G cI cJ ad a0 a1 a2 a3 a4 a5 a6 a7 a8 a9 a10 a11 a12 x_many x_built x_seed x_graphSeed x_bits x_bucketMany x_width 0 1 N v7 ev7 H.size) gX8_find_X8_fails rfl ⟨rfl, md_X8_fails⟩ ⟨Nat.le_of_ble_eq_true rfl, Nat.le_of_ble_eq_true rfl⟩ ⟨Nat.le_of_ble_eq_true rfl, Nat.le_of_ble_eq_true rfl⟩ 0 8 rfl rfl rfl rfl (Nat.le_of_ble_eq_true rfl) dX8_find_17) ⟨rfl, rfl⟩ [0] (by decide) rfl rfl (fun H locs hw => ?_)
    have hw : kk_wd G A s.heap [(a0, .inr (8, [.ref a1, .int x_many, .int x_built, .int x_seed, .int x_graphSeed, .int x_bits, .int x_bucketMany, .int x_width, .ref a2, .ref a3, .ref a4, .ref a5, .ref a6, .ref a7, .ref a8, .ref a9, .ref a10, .ref a11, .ref a12, .int v7.2])), (a3, .inl (cI, 120, .inl f_shift)), (a5, .inl (cI, 120, .inl f_prints))] H locs := hw
    have hy := Option.some.inj hF0
    subst hy
    exact hret dX8_find_20 (by decide) (by decide) hw
theorem ui_X8_strangers_X8 : ∀ w ∈ u_ws RX8 TX8 20, w ∈ wsX8_strangers := by decide +kernel
theorem m_X8_strangers_Cond_fieldLink_RX8_47_PerfectPewModel_thrown_I_ : Cond.fieldLink RX8 47 "PerfectPewModel" "thrown" "I" ∈ wsX8_strangers := by decide +kernel
theorem m_X8_strangers_Cond_constant_RX8_106_99999_ : Cond.constant RX8 106 (99999) ∈ wsX8_strangers := by decide +kernel
theorem m_X8_strangers_Cond_fieldLink_RX8_114_PerfectPewModel_built_Z_ : Cond.fieldLink RX8 114 "PerfectPewModel" "built" "Z" ∈ wsX8_strangers := by decide +kernel
set_option maxRecDepth 100000 in
set_option maxHeartbeats 4000000 in
theorem c_X8_strangers (l : Launch) (G : va_G) (cI cJ : ClassId) (ad : Nat → Nat) (a0 a1 a2 a3 a4 a5 a6 a7 a8 a9 a10 a11 a12 : Nat) (x_many : Int32) (x_built : Int32) (x_seed : Int32) (x_graphSeed : Int32) (x_bits : Int32) (x_bucketMany : Int32) (x_width : Int32) (x_thrown : Int32) (f_keys : Nat → Int32) (f_shift : Nat → Int32) (f_prints : Nat → Int32) (i1 : Int32) (i2 : Int32) (N : Nat) (x : (Int32 × Int32)) (hF0 : F_X8_strangers N x_many x_built x_seed x_bits x_bucketMany x_thrown f_keys f_shift f_prints i1 i2 = some x) : kk_I l yX8_strangers wsX8_strangers 6 0 0 130 [.ref a0, .int i1, .int i2] G cI cJ ad [(a0, .inr (8, [.ref a1, .int x_many, .int x_built, .int x_seed, .int x_graphSeed, .int x_bits, .int x_bucketMany, .int x_width, .ref a2, .ref a3, .ref a4, .ref a5, .ref a6, .ref a7, .ref a8, .ref a9, .ref a10, .ref a11, .ref a12, .int x_thrown])), (a1, .inl (cI, 120, .inl f_keys)), (a3, .inl (cI, 120, .inl f_shift)), (a5, .inl (cI, 120, .inl f_prints))] x.1 [(a0, .inr (8, [.ref a1, .int x_many, .int x_built, .int x_seed, .int x_graphSeed, .int x_bits, .int x_bucketMany, .int x_width, .ref a2, .ref a3, .ref a4, .ref a5, .ref a6, .ref a7, .ref a8, .ref a9, .ref a10, .ref a11, .ref a12, .int x.2])), (a1, .inl (cI, 120, .inl f_keys)), (a3, .inl (cI, 120, .inl f_shift)), (a5, .inl (cI, 120, .inl f_prints))] := by
  refine kk_ofI (cc := cX8_strangers) (maxL := 5) (by decide) rfl (Nat.le_of_ble_eq_true rfl) ?_
  intro p e s m below meth c A Q ls H locs hx hb hml hown hts hE hw hl hret
  have F : kk_at p m c cX8_strangers 5 s _ wsX8_strangers RX8 G cI cJ ad A := ⟨⟨hx, hb, hml, hown, hts⟩, hE⟩
  have hl : lv_has ls 5 [(0, .ref a0), (1, .int i1), (2, .int i2)] := hl
  unfold F_X8_strangers at hF0
  have hJ1 : ∀ (x_thrown_1 : Int32) (i3_1 : Int32), J_X8_strangers_97 N x_thrown_1 i3_1 = some x → ∀ (H : Heap) (locs : List Loc) (ls : Array Slot), kk_wd G A s.heap [(a0, .inr (8, [.ref a1, .int x_many, .int x_built, .int x_seed, .int x_graphSeed, .int x_bits, .int x_bucketMany, .int x_width, .ref a2, .ref a3, .ref a4, .ref a5, .ref a6, .ref a7, .ref a8, .ref a9, .ref a10, .ref a11, .ref a12, .int x_thrown_1])), (a1, .inl (cI, 120, .inl f_keys)), (a3, .inl (cI, 120, .inl f_shift)), (a5, .inl (cI, 120, .inl f_prints))] H locs → lv_has ls 5 [(3, .int i3_1)] → W p l e (kk_rm 6 0 0 130) s m ([.ref a0, .int i1, .int i2] : List Value).toArray below meth c H locs 0 0 Q (F0 m 97 ls []) := by
    intro x_thrown_1 i3_1 hF0 H locs ls hw hl
    unfold J_X8_strangers_97 at hF0
    refine lv_iload_n hx hb dX8_strangers_97 rfl (lv_at hl 0 rfl) ?_
    have hy := Option.some.inj hF0
    subst hy
    exact hret dX8_strangers_98 (by decide) (by decide) hw
  have hJ2 : ∀ (x_thrown_2 : Int32), J_X8_strangers_34 N x_thrown_2 = some x → ∀ (H : Heap) (locs : List Loc) (ls : Array Slot), kk_wd G A s.heap [(a0, .inr (8, [.ref a1, .int x_many, .int x_built, .int x_seed, .int x_graphSeed, .int x_bits, .int x_bucketMany, .int x_width, .ref a2, .ref a3, .ref a4, .ref a5, .ref a6, .ref a7, .ref a8, .ref a9, .ref a10, .ref a11, .ref a12, .int x_thrown_2])), (a1, .inl (cI, 120, .inl f_keys)), (a3, .inl (cI, 120, .inl f_shift)), (a5, .inl (cI, 120, .inl f_prints))] H locs → lv_has ls 5 [(0, .ref a0)] → W p l e (kk_rm 6 0 0 130) s m ([.ref a0, .int i1, .int i2] : List Value).toArray below meth c H locs 0 0 Q (F0 m 34 ls []) := by
    intro x_thrown_2 hF0 H locs ls hw hl
    unfold J_X8_strangers_34 at hF0
    refine lv_aload_n hx hb dX8_strangers_34 rfl (lv_at hl 0 rfl) ?_
    refine lv_iconst (v := 1) hx hb dX8_strangers_35 (by decide) ?_
    obtain ⟨v3, ev3, hF0⟩ := kk_bind hF0
    refine kk_callI 0 0 hw (kk_runV (As := [.int 1]) (rest := []) F hw hl.1 (c_X8_fails l G cI cJ ad a0 a1 a2 a3 a4 a5 a6 a7 a8 a9 a10 a11 a12 x_many x_built x_seed x_graphSeed x_bits x_bucketMany x_width x_thrown_2 1 N v3 ev3 H.size) gX8_strangers_X8_fails rfl ⟨rfl, md_X8_fails⟩ ⟨Nat.le_of_ble_eq_true rfl, Nat.le_of_ble_eq_true rfl⟩ ⟨Nat.le_of_ble_eq_true rfl, Nat.le_of_ble_eq_true rfl⟩ 0 8 rfl rfl rfl rfl (Nat.le_of_ble_eq_true rfl) dX8_strangers_36) ⟨rfl, rfl⟩ [0] (by decide) rfl rfl (fun H locs hw => ?_)
    have hw : kk_wd G A s.heap [(a0, .inr (8, [.ref a1, .int x_many, .int x_built, .int x_seed, .int x_graphSeed, .int x_bits, .int x_bucketMany, .int x_width, .ref a2, .ref a3, .ref a4, .ref a5, .ref a6, .ref a7, .ref a8, .ref a9, .ref a10, .ref a11, .ref a12, .int v3.2])), (a1, .inl (cI, 120, .inl f_keys)), (a3, .inl (cI, 120, .inl f_shift)), (a5, .inl (cI, 120, .inl f_prints))] H locs := hw
    have hy := Option.some.inj hF0
    subst hy
    exact hret dX8_strangers_39 (by decide) (by decide) hw
  refine lv_aload_n hx hb dX8_strangers_0 rfl (lv_at hl 0 rfl) ?_
  refine lv_iconst (v := 0) hx hb dX8_strangers_1 (by decide) ?_
  refine kk_put F hw ui_X8_strangers_X8 tyX8 tyX8_ok nmX8 0 rfl rfl 19 (by decide) m_X8_strangers_Cond_fieldLink_RX8_47_PerfectPewModel_thrown_I_ rfl rfl rfl (Nat.le_of_ble_eq_true rfl) dX8_strangers_2 (fun H locs hw => ?_)
  have hw : kk_wd G A s.heap [(a0, .inr (8, [.ref a1, .int x_many, .int x_built, .int x_seed, .int x_graphSeed, .int x_bits, .int x_bucketMany, .int x_width, .ref a2, .ref a3, .ref a4, .ref a5, .ref a6, .ref a7, .ref a8, .ref a9, .ref a10, .ref a11, .ref a12, .int 0])), (a1, .inl (cI, 120, .inl f_keys)), (a3, .inl (cI, 120, .inl f_shift)), (a5, .inl (cI, 120, .inl f_prints))] H locs := hw
  refine lv_iload_n hx hb dX8_strangers_5 rfl (lv_at hl 1 rfl) ?_
  refine lv_iconst (v := 0) hx hb dX8_strangers_6 (by decide) ?_
  refine lv_ldc hx hb hown (hts _ m_X8_strangers_Cond_constant_RX8_106_99999_) dX8_strangers_7 ?_
  obtain ⟨v4, ev4, hF0⟩ := kk_bind hF0
  refine kk_callI 0 0 hw (kk_runS (As := [.int i1, .int 0, .int 99999]) (rest := []) F hw hl.1 (c_X8_in l G cI cJ ad i1 0 99999 N v4 ev4 H.size) gX8_strangers_X8_in rfl md_X8_in ⟨Nat.le_of_ble_eq_true rfl, Nat.le_of_ble_eq_true rfl⟩ ⟨Nat.le_of_ble_eq_true rfl, Nat.le_of_ble_eq_true rfl⟩ rfl (Nat.le_of_ble_eq_true rfl) dX8_strangers_9) ⟨rfl, rfl⟩ [] (by decide) rfl rfl (fun H locs hw => ?_)
  refine lv_if_eq (tgt := 34) hx hb dX8_strangers_12 (by decide) (fun c5 => ?_) (fun c5 => ?_)
  · have hF0 := (if_pos c5).symm.trans hF0
    exact hJ2 0 hF0 _ _ _ hw (lv_sub hl [0] rfl)
  · have hF0 := (if_neg c5).symm.trans hF0
    refine lv_iload_n hx hb dX8_strangers_15 rfl (lv_at hl 2 rfl) ?_
    refine lv_iload_n hx hb dX8_strangers_16 rfl (lv_at hl 1 rfl) ?_
    refine lv_ldc hx hb hown (hts _ m_X8_strangers_Cond_constant_RX8_106_99999_) dX8_strangers_17 ?_
    obtain ⟨v6, ev6, hF0⟩ := kk_bind hF0
    refine kk_callI 0 0 hw (kk_runS (As := [.int i2, .int i1, .int 99999]) (rest := []) F hw hl.1 (c_X8_in l G cI cJ ad i2 i1 99999 N v6 ev6 H.size) gX8_strangers_X8_in rfl md_X8_in ⟨Nat.le_of_ble_eq_true rfl, Nat.le_of_ble_eq_true rfl⟩ ⟨Nat.le_of_ble_eq_true rfl, Nat.le_of_ble_eq_true rfl⟩ rfl (Nat.le_of_ble_eq_true rfl) dX8_strangers_19) ⟨rfl, rfl⟩ [] (by decide) rfl rfl (fun H locs hw => ?_)
    refine lv_if_eq (tgt := 34) hx hb dX8_strangers_22 (by decide) (fun c7 => ?_) (fun c7 => ?_)
    · have hF0 := (if_pos c7).symm.trans hF0
      exact hJ2 0 hF0 _ _ _ hw (lv_sub hl [0] rfl)
    · have hF0 := (if_neg c7).symm.trans hF0
      refine lv_iload_n hx hb dX8_strangers_25 rfl (lv_at hl 2 rfl) ?_
      refine lv_iload_n hx hb dX8_strangers_26 rfl (lv_at hl 1 rfl) ?_
      refine lv_isub hx hb dX8_strangers_27 ?_
      refine lv_sipush (v := 4999) hx hb dX8_strangers_28 (by decide) ?_
      refine lv_icmp_le (tgt := 40) hx hb dX8_strangers_31 (by decide) (fun c8 => ?_) (fun c8 => ?_)
      · have hF0 := (if_pos c8).symm.trans hF0
        refine lv_aload_n hx hb dX8_strangers_40 rfl (lv_at hl 0 rfl) ?_
        refine kk_get (T := TX8) F hw ui_X8_strangers_X8 0 rfl rfl 2 (by decide) m_X8_strangers_Cond_fieldLink_RX8_114_PerfectPewModel_built_Z_ rfl dX8_strangers_41 ?_
        refine lv_if_ne (tgt := 53) hx hb dX8_strangers_44 (by decide) (fun c9 => ?_) (fun c9 => ?_)
        · have hF0 := (if_neg c9).symm.trans hF0
          refine lv_iconst (v := 0) hx hb dX8_strangers_53 (by decide) ?_
          refine lv_istore_n (lv' := [(3, .int 0), (0, .ref a0), (1, .int i1), (2, .int i2)]) hx hb dX8_strangers_54 rfl hl (by decide) rfl (fun ls hl => ?_)
          refine lv_iload_n hx hb dX8_strangers_55 rfl (lv_at hl 2 rfl) ?_
          refine lv_istore (lv' := [(4, .int i1), (3, .int 0), (0, .ref a0), (1, .int i1), (2, .int i2)]) hx hb dX8_strangers_56 hl (by decide) rfl (fun ls hl => ?_)
          obtain ⟨z10, hz11, hF0⟩ := kk_bind hF0
          have hL11 : ∀ (n11 : Nat) (i3_11 : Int32) (i4_11 : Int32), kk_iter (fun (σ : (Int32 × Int32)) => L_X8_strangers_58 N x_many x_seed x_bits x_bucketMany f_keys f_shift f_prints i2 σ.1 σ.2) n11 (i3_11, i4_11) = some z10 → ∀ (H : Heap) (locs : List Loc) (ls : Array Slot), kk_wd G A s.heap [(a0, .inr (8, [.ref a1, .int x_many, .int x_built, .int x_seed, .int x_graphSeed, .int x_bits, .int x_bucketMany, .int x_width, .ref a2, .ref a3, .ref a4, .ref a5, .ref a6, .ref a7, .ref a8, .ref a9, .ref a10, .ref a11, .ref a12, .int 0])), (a1, .inl (cI, 120, .inl f_keys)), (a3, .inl (cI, 120, .inl f_shift)), (a5, .inl (cI, 120, .inl f_prints))] H locs → lv_has ls 5 [(0, .ref a0), (2, .int i2), (3, .int i3_11), (4, .int i4_11)] → W p l e (kk_rm 6 0 0 130) s m ([.ref a0, .int i1, .int i2] : List Value).toArray below meth c H locs 0 0 Q (F0 m 58 ls []) := by
            intro n11
            induction n11 with
            | zero => intro i3_11 i4_11 h; exact kk_iter0 h
            | succ n11 ih11 =>
              intro i3_11 i4_11 hq H locs ls hw hl
              obtain ⟨y11, hF1, hI1⟩ := kk_iterS hq
              have hF1 : L_X8_strangers_58 N x_many x_seed x_bits x_bucketMany f_keys f_shift f_prints i2 i3_11 i4_11 = some y11 := hF1
              unfold L_X8_strangers_58 at hF1
              have hJ12 : ∀ (i4_12 : Int32) (s0_12 : Int32) (s1_12 : Int32), J_X8_strangers_89 N i4_12 s0_12 s1_12 = some y11 → ∀ (H : Heap) (locs : List Loc) (ls : Array Slot), kk_wd G A s.heap [(a0, .inr (8, [.ref a1, .int x_many, .int x_built, .int x_seed, .int x_graphSeed, .int x_bits, .int x_bucketMany, .int x_width, .ref a2, .ref a3, .ref a4, .ref a5, .ref a6, .ref a7, .ref a8, .ref a9, .ref a10, .ref a11, .ref a12, .int 0])), (a1, .inl (cI, 120, .inl f_keys)), (a3, .inl (cI, 120, .inl f_shift)), (a5, .inl (cI, 120, .inl f_prints))] H locs → lv_has ls 5 [(0, .ref a0), (2, .int i2), (4, .int i4_12)] → W p l e (kk_rm 6 0 0 130) s m ([.ref a0, .int i1, .int i2] : List Value).toArray below meth c H locs 0 0 Q (F0 m 89 ls [.int s1_12, .int s0_12]) := by
                intro i4_12 s0_12 s1_12 hF1 H locs ls hw hl
                unfold J_X8_strangers_89 at hF1
                refine lv_iadd hx hb dX8_strangers_89 ?_
                refine lv_istore_n (lv' := [(3, .int (s0_12 + s1_12)), (0, .ref a0), (2, .int i2), (4, .int i4_12)]) hx hb dX8_strangers_90 rfl hl (by decide) rfl (fun ls hl => ?_)
                refine lv_iinc (v := (i4_12 + 1)) (lv' := [(4, .int (i4_12 + 1)), (3, .int (s0_12 + s1_12)), (0, .ref a0), (2, .int i2)]) hx hb dX8_strangers_91 hl (k := 3) rfl rfl (by decide) rfl (fun ls hl => ?_)
                refine lv_goto (tgt := 58) hx hb dX8_strangers_94 (by decide) ?_
                have hy := Option.some.inj hF1
                subst hy
                exact ih11 (s0_12 + s1_12) (i4_12 + 1) hI1 _ _ _ hw (lv_sub hl [2, 3, 1, 0] rfl)
              have hJ13 : ∀ (i4_13 : Int32) (s0_13 : Int32), J_X8_strangers_88 N i4_13 s0_13 = some y11 → ∀ (H : Heap) (locs : List Loc) (ls : Array Slot), kk_wd G A s.heap [(a0, .inr (8, [.ref a1, .int x_many, .int x_built, .int x_seed, .int x_graphSeed, .int x_bits, .int x_bucketMany, .int x_width, .ref a2, .ref a3, .ref a4, .ref a5, .ref a6, .ref a7, .ref a8, .ref a9, .ref a10, .ref a11, .ref a12, .int 0])), (a1, .inl (cI, 120, .inl f_keys)), (a3, .inl (cI, 120, .inl f_shift)), (a5, .inl (cI, 120, .inl f_prints))] H locs → lv_has ls 5 [(0, .ref a0), (2, .int i2), (4, .int i4_13)] → W p l e (kk_rm 6 0 0 130) s m ([.ref a0, .int i1, .int i2] : List Value).toArray below meth c H locs 0 0 Q (F0 m 88 ls [.int s0_13]) := by
                intro i4_13 s0_13 hF1 H locs ls hw hl
                unfold J_X8_strangers_88 at hF1
                refine lv_iconst (v := 0) hx hb dX8_strangers_88 (by decide) ?_
                exact hJ12 i4_13 s0_13 0 hF1 _ _ _ hw (lv_sub hl [0, 1, 2] rfl)
              refine lv_iload hx hb dX8_strangers_58 (lv_at hl 3 rfl) ?_
              refine lv_iload_n hx hb dX8_strangers_60 rfl (lv_at hl 1 rfl) ?_
              refine lv_icmp_gt (tgt := 97) hx hb dX8_strangers_61 (by decide) (fun c14 => ?_) (fun c14 => ?_)
              · have hF1 := (if_pos c14).symm.trans hF1
                have hy := Option.some.inj hF1
                subst hy
                have hz := Option.some.inj hI1
                subst hz
                exact hJ1 0 i3_11 hF0 _ _ _ hw (lv_sub hl [2] rfl)
              · have hF1 := (if_neg c14).symm.trans hF1
                refine lv_iload_n hx hb dX8_strangers_64 rfl (lv_at hl 2 rfl) ?_
                refine lv_aload_n hx hb dX8_strangers_65 rfl (lv_at hl 0 rfl) ?_
                refine lv_iload hx hb dX8_strangers_66 (lv_at hl 3 rfl) ?_
                obtain ⟨v15, ev15, hF1⟩ := kk_bind hF1
                refine kk_callI 0 0 hw (kk_runV (As := [.int i4_11]) (rest := [.int i3_11]) F hw hl.1 (c_X8_found l G cI cJ ad a0 a1 a2 a3 a4 a5 a6 a7 a8 a9 a10 a11 a12 x_many x_built x_seed x_graphSeed x_bits x_bucketMany x_width 0 f_shift f_prints i4_11 N v15 ev15 H.size) gX8_strangers_X8_found rfl ⟨rfl, md_X8_found⟩ ⟨Nat.le_of_ble_eq_true rfl, Nat.le_of_ble_eq_true rfl⟩ ⟨Nat.le_of_ble_eq_true rfl, Nat.le_of_ble_eq_true rfl⟩ 0 8 rfl rfl rfl rfl (Nat.le_of_ble_eq_true rfl) dX8_strangers_68) ⟨rfl, rfl⟩ [0, 2, 3] (by decide) rfl rfl (fun H locs hw => ?_)
                have hw : kk_wd G A s.heap [(a0, .inr (8, [.ref a1, .int x_many, .int x_built, .int x_seed, .int x_graphSeed, .int x_bits, .int x_bucketMany, .int x_width, .ref a2, .ref a3, .ref a4, .ref a5, .ref a6, .ref a7, .ref a8, .ref a9, .ref a10, .ref a11, .ref a12, .int 0])), (a1, .inl (cI, 120, .inl f_keys)), (a3, .inl (cI, 120, .inl f_shift)), (a5, .inl (cI, 120, .inl f_prints))] H locs := hw
                refine lv_iconst (v := (-1)) hx hb dX8_strangers_71 (by decide) ?_
                refine lv_icmp_eq (tgt := 88) hx hb dX8_strangers_72 (by decide) (fun c16 => ?_) (fun c16 => ?_)
                · have hF1 := (if_pos c16).symm.trans hF1
                  exact hJ13 i4_11 i3_11 hF1 _ _ _ hw (lv_sub hl [0, 1, 3] rfl)
                · have hF1 := (if_neg c16).symm.trans hF1
                  refine lv_aload_n hx hb dX8_strangers_75 rfl (lv_at hl 0 rfl) ?_
                  refine lv_iload hx hb dX8_strangers_76 (lv_at hl 3 rfl) ?_
                  obtain ⟨v17, ev17, hF1⟩ := kk_bind hF1
                  refine kk_callI 0 0 hw (kk_runV (As := [.int i4_11]) (rest := [.int i3_11]) F hw hl.1 (c_X8_is l G cI cJ ad a0 a1 a2 a3 a4 a5 a6 a7 a8 a9 a10 a11 a12 x_many x_built x_seed x_graphSeed x_bits x_bucketMany x_width 0 f_keys i4_11 N v17 ev17 H.size) gX8_strangers_X8_is rfl ⟨rfl, md_X8_is⟩ ⟨Nat.le_of_ble_eq_true rfl, Nat.le_of_ble_eq_true rfl⟩ ⟨Nat.le_of_ble_eq_true rfl, Nat.le_of_ble_eq_true rfl⟩ 0 8 rfl rfl rfl rfl (Nat.le_of_ble_eq_true rfl) dX8_strangers_78) ⟨rfl, rfl⟩ [0, 1] (by decide) rfl rfl (fun H locs hw => ?_)
                  have hw : kk_wd G A s.heap [(a0, .inr (8, [.ref a1, .int x_many, .int x_built, .int x_seed, .int x_graphSeed, .int x_bits, .int x_bucketMany, .int x_width, .ref a2, .ref a3, .ref a4, .ref a5, .ref a6, .ref a7, .ref a8, .ref a9, .ref a10, .ref a11, .ref a12, .int 0])), (a1, .inl (cI, 120, .inl f_keys)), (a3, .inl (cI, 120, .inl f_shift)), (a5, .inl (cI, 120, .inl f_prints))] H locs := hw
                  refine lv_if_ne (tgt := 88) hx hb dX8_strangers_81 (by decide) (fun c18 => ?_) (fun c18 => ?_)
                  · have hF1 := (if_neg c18).symm.trans hF1
                    exact hJ13 i4_11 i3_11 hF1 _ _ _ hw (lv_sub hl [0, 1, 3] rfl)
                  · have hF1 := (if_pos c18).symm.trans hF1
                    refine lv_iconst (v := 1) hx hb dX8_strangers_84 (by decide) ?_
                    refine lv_goto (tgt := 89) hx hb dX8_strangers_85 (by decide) ?_
                    exact hJ12 i4_11 i3_11 1 hF1 _ _ _ hw (lv_sub hl [0, 1, 3] rfl)
          exact hL11 N 0 i1 hz11 _ _ _ hw (lv_sub hl [2, 4, 1, 0] rfl)
        · have hF0 := (if_pos c9).symm.trans hF0
          refine lv_aload_n hx hb dX8_strangers_47 rfl (lv_at hl 0 rfl) ?_
          refine lv_iconst (v := 2) hx hb dX8_strangers_48 (by decide) ?_
          obtain ⟨v19, ev19, hF0⟩ := kk_bind hF0
          refine kk_callI 0 0 hw (kk_runV (As := [.int 2]) (rest := []) F hw hl.1 (c_X8_fails l G cI cJ ad a0 a1 a2 a3 a4 a5 a6 a7 a8 a9 a10 a11 a12 x_many x_built x_seed x_graphSeed x_bits x_bucketMany x_width 0 2 N v19 ev19 H.size) gX8_strangers_X8_fails rfl ⟨rfl, md_X8_fails⟩ ⟨Nat.le_of_ble_eq_true rfl, Nat.le_of_ble_eq_true rfl⟩ ⟨Nat.le_of_ble_eq_true rfl, Nat.le_of_ble_eq_true rfl⟩ 0 8 rfl rfl rfl rfl (Nat.le_of_ble_eq_true rfl) dX8_strangers_49) ⟨rfl, rfl⟩ [0] (by decide) rfl rfl (fun H locs hw => ?_)
          have hw : kk_wd G A s.heap [(a0, .inr (8, [.ref a1, .int x_many, .int x_built, .int x_seed, .int x_graphSeed, .int x_bits, .int x_bucketMany, .int x_width, .ref a2, .ref a3, .ref a4, .ref a5, .ref a6, .ref a7, .ref a8, .ref a9, .ref a10, .ref a11, .ref a12, .int v19.2])), (a1, .inl (cI, 120, .inl f_keys)), (a3, .inl (cI, 120, .inl f_shift)), (a5, .inl (cI, 120, .inl f_prints))] H locs := hw
          have hy := Option.some.inj hF0
          subst hy
          exact hret dX8_strangers_52 (by decide) (by decide) hw
      · have hF0 := (if_neg c8).symm.trans hF0
        exact hJ2 0 hF0 _ _ _ hw (lv_sub hl [0] rfl)
theorem ui_X8_told_X8 : ∀ w ∈ u_ws RX8 TX8 20, w ∈ wsX8_told := by decide +kernel
theorem m_X8_told_Cond_fieldLink_RX8_114_PerfectPewModel_built_Z_ : Cond.fieldLink RX8 114 "PerfectPewModel" "built" "Z" ∈ wsX8_told := by decide +kernel
set_option maxRecDepth 100000 in
set_option maxHeartbeats 4000000 in
theorem c_X8_told (l : Launch) (G : va_G) (cI cJ : ClassId) (ad : Nat → Nat) (a0 a1 a2 a3 a4 a5 a6 a7 a8 a9 a10 a11 a12 : Nat) (x_many : Int32) (x_built : Int32) (x_seed : Int32) (x_graphSeed : Int32) (x_bits : Int32) (x_bucketMany : Int32) (x_width : Int32) (x_thrown : Int32) (i1 : Int32) (i2 : Int32) (N : Nat) (x : (Int32 × Int32)) (hF0 : F_X8_told N x_built x_thrown i1 i2 = some x) : kk_I l yX8_told wsX8_told 1 0 0 21 [.ref a0, .int i1, .int i2] G cI cJ ad [(a0, .inr (8, [.ref a1, .int x_many, .int x_built, .int x_seed, .int x_graphSeed, .int x_bits, .int x_bucketMany, .int x_width, .ref a2, .ref a3, .ref a4, .ref a5, .ref a6, .ref a7, .ref a8, .ref a9, .ref a10, .ref a11, .ref a12, .int x_thrown]))] x.1 [(a0, .inr (8, [.ref a1, .int x_many, .int x_built, .int x_seed, .int x_graphSeed, .int x_bits, .int x_bucketMany, .int x_width, .ref a2, .ref a3, .ref a4, .ref a5, .ref a6, .ref a7, .ref a8, .ref a9, .ref a10, .ref a11, .ref a12, .int x.2]))] := by
  refine kk_ofI (cc := cX8_told) (maxL := 3) (by decide) rfl (Nat.le_of_ble_eq_true rfl) ?_
  intro p e s m below meth c A Q ls H locs hx hb hml hown hts hE hw hl hret
  have F : kk_at p m c cX8_told 3 s _ wsX8_told RX8 G cI cJ ad A := ⟨⟨hx, hb, hml, hown, hts⟩, hE⟩
  have hl : lv_has ls 3 [(0, .ref a0), (1, .int i1), (2, .int i2)] := hl
  unfold F_X8_told at hF0
  have hJ1 : ∀ (x_thrown_1 : Int32) (s0_1 : Int32), J_X8_told_26 N x_thrown_1 s0_1 = some x → ∀ (H : Heap) (locs : List Loc) (ls : Array Slot), kk_wd G A s.heap [(a0, .inr (8, [.ref a1, .int x_many, .int x_built, .int x_seed, .int x_graphSeed, .int x_bits, .int x_bucketMany, .int x_width, .ref a2, .ref a3, .ref a4, .ref a5, .ref a6, .ref a7, .ref a8, .ref a9, .ref a10, .ref a11, .ref a12, .int x_thrown_1]))] H locs → lv_has ls 3 [] → W p l e (kk_rm 1 0 0 21) s m ([.ref a0, .int i1, .int i2] : List Value).toArray below meth c H locs 0 0 Q (F0 m 26 ls [.int s0_1]) := by
    intro x_thrown_1 s0_1 hF0 H locs ls hw hl
    unfold J_X8_told_26 at hF0
    have hy := Option.some.inj hF0
    subst hy
    exact hret dX8_told_26 (by decide) (by decide) hw
  refine lv_aload_n hx hb dX8_told_0 rfl (lv_at hl 0 rfl) ?_
  refine kk_get (T := TX8) F hw ui_X8_told_X8 0 rfl rfl 2 (by decide) m_X8_told_Cond_fieldLink_RX8_114_PerfectPewModel_built_Z_ rfl dX8_told_1 ?_
  refine lv_if_ne (tgt := 13) hx hb dX8_told_4 (by decide) (fun c2 => ?_) (fun c2 => ?_)
  · have hF0 := (if_neg c2).symm.trans hF0
    refine lv_iload_n hx hb dX8_told_13 rfl (lv_at hl 1 rfl) ?_
    refine lv_if_eq (tgt := 21) hx hb dX8_told_14 (by decide) (fun c3 => ?_) (fun c3 => ?_)
    · have hF0 := (if_pos c3).symm.trans hF0
      refine lv_aload_n hx hb dX8_told_21 rfl (lv_at hl 0 rfl) ?_
      refine lv_iconst (v := 2) hx hb dX8_told_22 (by decide) ?_
      obtain ⟨v4, ev4, hF0⟩ := kk_bind hF0
      refine kk_callI 0 0 hw (kk_runV (As := [.int 2]) (rest := []) F hw hl.1 (c_X8_fails l G cI cJ ad a0 a1 a2 a3 a4 a5 a6 a7 a8 a9 a10 a11 a12 x_many x_built x_seed x_graphSeed x_bits x_bucketMany x_width x_thrown 2 N v4 ev4 H.size) gX8_told_X8_fails rfl ⟨rfl, md_X8_fails⟩ ⟨Nat.le_of_ble_eq_true rfl, Nat.le_of_ble_eq_true rfl⟩ ⟨Nat.le_of_ble_eq_true rfl, Nat.le_of_ble_eq_true rfl⟩ 0 8 rfl rfl rfl rfl (Nat.le_of_ble_eq_true rfl) dX8_told_23) ⟨rfl, rfl⟩ [0] (by decide) rfl rfl (fun H locs hw => ?_)
      have hw : kk_wd G A s.heap [(a0, .inr (8, [.ref a1, .int x_many, .int x_built, .int x_seed, .int x_graphSeed, .int x_bits, .int x_bucketMany, .int x_width, .ref a2, .ref a3, .ref a4, .ref a5, .ref a6, .ref a7, .ref a8, .ref a9, .ref a10, .ref a11, .ref a12, .int v4.2]))] H locs := hw
      exact hJ1 v4.2 v4.1 hF0 _ _ _ hw (lv_sub hl [] rfl)
    · have hF0 := (if_neg c3).symm.trans hF0
      refine lv_iload_n hx hb dX8_told_17 rfl (lv_at hl 2 rfl) ?_
      refine lv_goto (tgt := 26) hx hb dX8_told_18 (by decide) ?_
      exact hJ1 x_thrown i2 hF0 _ _ _ hw (lv_sub hl [] rfl)
  · have hF0 := (if_pos c2).symm.trans hF0
    refine lv_aload_n hx hb dX8_told_7 rfl (lv_at hl 0 rfl) ?_
    refine lv_iconst (v := 1) hx hb dX8_told_8 (by decide) ?_
    obtain ⟨v5, ev5, hF0⟩ := kk_bind hF0
    refine kk_callI 0 0 hw (kk_runV (As := [.int 1]) (rest := []) F hw hl.1 (c_X8_fails l G cI cJ ad a0 a1 a2 a3 a4 a5 a6 a7 a8 a9 a10 a11 a12 x_many x_built x_seed x_graphSeed x_bits x_bucketMany x_width x_thrown 1 N v5 ev5 H.size) gX8_told_X8_fails rfl ⟨rfl, md_X8_fails⟩ ⟨Nat.le_of_ble_eq_true rfl, Nat.le_of_ble_eq_true rfl⟩ ⟨Nat.le_of_ble_eq_true rfl, Nat.le_of_ble_eq_true rfl⟩ 0 8 rfl rfl rfl rfl (Nat.le_of_ble_eq_true rfl) dX8_told_9) ⟨rfl, rfl⟩ [0] (by decide) rfl rfl (fun H locs hw => ?_)
    have hw : kk_wd G A s.heap [(a0, .inr (8, [.ref a1, .int x_many, .int x_built, .int x_seed, .int x_graphSeed, .int x_bits, .int x_bucketMany, .int x_width, .ref a2, .ref a3, .ref a4, .ref a5, .ref a6, .ref a7, .ref a8, .ref a9, .ref a10, .ref a11, .ref a12, .int v5.2]))] H locs := hw
    have hy := Option.some.inj hF0
    subst hy
    exact hret dX8_told_12 (by decide) (by decide) hw
theorem ui_X8_keyOf_X8 : ∀ w ∈ u_ws RX8 TX8 20, w ∈ wsX8_keyOf := by decide +kernel
theorem m_X8_keyOf_Cond_fieldLink_RX8_47_PerfectPewModel_thrown_I_ : Cond.fieldLink RX8 47 "PerfectPewModel" "thrown" "I" ∈ wsX8_keyOf := by decide +kernel
theorem m_X8_keyOf_Cond_fieldLink_RX8_99_PerfectPewModel_many_I_ : Cond.fieldLink RX8 99 "PerfectPewModel" "many" "I" ∈ wsX8_keyOf := by decide +kernel
theorem m_X8_keyOf_Cond_fieldLink_RX8_19_PerfectPewModel_owner_I_ : Cond.fieldLink RX8 19 "PerfectPewModel" "owner" "[I" ∈ wsX8_keyOf := by decide +kernel
set_option maxRecDepth 100000 in
set_option maxHeartbeats 4000000 in
theorem c_X8_keyOf (l : Launch) (G : va_G) (cI cJ : ClassId) (ad : Nat → Nat) (a0 a1 a2 a3 a4 a5 a6 a7 a8 a9 a10 a11 a12 : Nat) (x_many : Int32) (x_built : Int32) (x_seed : Int32) (x_graphSeed : Int32) (x_bits : Int32) (x_bucketMany : Int32) (x_width : Int32) (x_thrown : Int32) (f_owner : Nat → Int32) (i1 : Int32) (N : Nat) (x : (Int32 × Int32)) (hF0 : F_X8_keyOf N x_many x_built x_thrown f_owner i1 = some x) : kk_I l yX8_keyOf wsX8_keyOf 2 0 0 43 [.ref a0, .int i1] G cI cJ ad [(a0, .inr (8, [.ref a1, .int x_many, .int x_built, .int x_seed, .int x_graphSeed, .int x_bits, .int x_bucketMany, .int x_width, .ref a2, .ref a3, .ref a4, .ref a5, .ref a6, .ref a7, .ref a8, .ref a9, .ref a10, .ref a11, .ref a12, .int x_thrown])), (a4, .inl (cI, 120, .inl f_owner))] x.1 [(a0, .inr (8, [.ref a1, .int x_many, .int x_built, .int x_seed, .int x_graphSeed, .int x_bits, .int x_bucketMany, .int x_width, .ref a2, .ref a3, .ref a4, .ref a5, .ref a6, .ref a7, .ref a8, .ref a9, .ref a10, .ref a11, .ref a12, .int x.2])), (a4, .inl (cI, 120, .inl f_owner))] := by
  refine kk_ofI (cc := cX8_keyOf) (maxL := 3) (by decide) rfl (Nat.le_of_ble_eq_true rfl) ?_
  intro p e s m below meth c A Q ls H locs hx hb hml hown hts hE hw hl hret
  have F : kk_at p m c cX8_keyOf 3 s _ wsX8_keyOf RX8 G cI cJ ad A := ⟨⟨hx, hb, hml, hown, hts⟩, hE⟩
  have hl : lv_has ls 3 [(0, .ref a0), (1, .int i1)] := hl
  unfold F_X8_keyOf at hF0
  have hJ1 : ∀ (x_thrown_1 : Int32) (s1_1 : Int32) (s2_1 : Int32), J_X8_keyOf_33 N x_built x_thrown_1 s1_1 s2_1 = some x → ∀ (H : Heap) (locs : List Loc) (ls : Array Slot), kk_wd G A s.heap [(a0, .inr (8, [.ref a1, .int x_many, .int x_built, .int x_seed, .int x_graphSeed, .int x_bits, .int x_bucketMany, .int x_width, .ref a2, .ref a3, .ref a4, .ref a5, .ref a6, .ref a7, .ref a8, .ref a9, .ref a10, .ref a11, .ref a12, .int x_thrown_1])), (a4, .inl (cI, 120, .inl f_owner))] H locs → lv_has ls 3 [] → W p l e (kk_rm 2 0 0 43) s m ([.ref a0, .int i1] : List Value).toArray below meth c H locs 0 0 Q (F0 m 33 ls [.int s2_1, .int s1_1, .ref a0]) := by
    intro x_thrown_1 s1_1 s2_1 hF0 H locs ls hw hl
    unfold J_X8_keyOf_33 at hF0
    obtain ⟨v2, ev2, hF0⟩ := kk_bind hF0
    refine kk_callI 0 0 hw (kk_runV (As := [.int s1_1, .int s2_1]) (rest := []) F hw hl.1 (c_X8_told l G cI cJ ad a0 a1 a2 a3 a4 a5 a6 a7 a8 a9 a10 a11 a12 x_many x_built x_seed x_graphSeed x_bits x_bucketMany x_width x_thrown_1 s1_1 s2_1 N v2 ev2 H.size) gX8_keyOf_X8_told rfl ⟨rfl, md_X8_told⟩ ⟨Nat.le_of_ble_eq_true rfl, Nat.le_of_ble_eq_true rfl⟩ ⟨Nat.le_of_ble_eq_true rfl, Nat.le_of_ble_eq_true rfl⟩ 0 8 rfl rfl rfl rfl (Nat.le_of_ble_eq_true rfl) dX8_keyOf_33) ⟨rfl, rfl⟩ [0] (by decide) rfl rfl (fun H locs hw => ?_)
    have hw : kk_wd G A s.heap [(a0, .inr (8, [.ref a1, .int x_many, .int x_built, .int x_seed, .int x_graphSeed, .int x_bits, .int x_bucketMany, .int x_width, .ref a2, .ref a3, .ref a4, .ref a5, .ref a6, .ref a7, .ref a8, .ref a9, .ref a10, .ref a11, .ref a12, .int v2.2])), (a4, .inl (cI, 120, .inl f_owner))] H locs := hw
    have hy := Option.some.inj hF0
    subst hy
    exact hret dX8_keyOf_36 (by decide) (by decide) hw
  refine lv_aload_n hx hb dX8_keyOf_0 rfl (lv_at hl 0 rfl) ?_
  refine lv_iconst (v := 0) hx hb dX8_keyOf_1 (by decide) ?_
  refine kk_put F hw ui_X8_keyOf_X8 tyX8 tyX8_ok nmX8 0 rfl rfl 19 (by decide) m_X8_keyOf_Cond_fieldLink_RX8_47_PerfectPewModel_thrown_I_ rfl rfl rfl (Nat.le_of_ble_eq_true rfl) dX8_keyOf_2 (fun H locs hw => ?_)
  have hw : kk_wd G A s.heap [(a0, .inr (8, [.ref a1, .int x_many, .int x_built, .int x_seed, .int x_graphSeed, .int x_bits, .int x_bucketMany, .int x_width, .ref a2, .ref a3, .ref a4, .ref a5, .ref a6, .ref a7, .ref a8, .ref a9, .ref a10, .ref a11, .ref a12, .int 0])), (a4, .inl (cI, 120, .inl f_owner))] H locs := hw
  refine lv_iload_n hx hb dX8_keyOf_5 rfl (lv_at hl 1 rfl) ?_
  refine lv_iconst (v := 0) hx hb dX8_keyOf_6 (by decide) ?_
  refine lv_aload_n hx hb dX8_keyOf_7 rfl (lv_at hl 0 rfl) ?_
  refine kk_get (T := TX8) F hw ui_X8_keyOf_X8 0 rfl rfl 1 (by decide) m_X8_keyOf_Cond_fieldLink_RX8_99_PerfectPewModel_many_I_ rfl dX8_keyOf_8 ?_
  refine lv_iconst (v := 1) hx hb dX8_keyOf_11 (by decide) ?_
  refine lv_isub hx hb dX8_keyOf_12 ?_
  obtain ⟨v3, ev3, hF0⟩ := kk_bind hF0
  refine kk_callI 0 0 hw (kk_runS (As := [.int i1, .int 0, .int (x_many - 1)]) (rest := []) F hw hl.1 (c_X8_in l G cI cJ ad i1 0 (x_many - 1) N v3 ev3 H.size) gX8_keyOf_X8_in rfl md_X8_in ⟨Nat.le_of_ble_eq_true rfl, Nat.le_of_ble_eq_true rfl⟩ ⟨Nat.le_of_ble_eq_true rfl, Nat.le_of_ble_eq_true rfl⟩ rfl (Nat.le_of_ble_eq_true rfl) dX8_keyOf_13) ⟨rfl, rfl⟩ [] (by decide) rfl rfl (fun H locs hw => ?_)
  refine lv_istore_n (lv' := [(2, .int v3), (0, .ref a0), (1, .int i1)]) hx hb dX8_keyOf_16 rfl hl (by decide) rfl (fun ls hl => ?_)
  refine lv_aload_n hx hb dX8_keyOf_17 rfl (lv_at hl 1 rfl) ?_
  refine lv_iload_n hx hb dX8_keyOf_18 rfl (lv_at hl 0 rfl) ?_
  refine lv_iload_n hx hb dX8_keyOf_19 rfl (lv_at hl 0 rfl) ?_
  refine lv_if_eq (tgt := 32) hx hb dX8_keyOf_20 (by decide) (fun c4 => ?_) (fun c4 => ?_)
  · have hF0 := (if_pos c4).symm.trans hF0
    refine lv_iconst (v := 0) hx hb dX8_keyOf_32 (by decide) ?_
    exact hJ1 0 v3 0 hF0 _ _ _ hw (lv_sub hl [] rfl)
  · have hF0 := (if_neg c4).symm.trans hF0
    refine lv_aload_n hx hb dX8_keyOf_23 rfl (lv_at hl 1 rfl) ?_
    refine kk_get (T := TX8) F hw ui_X8_keyOf_X8 0 rfl rfl 10 (by decide) m_X8_keyOf_Cond_fieldLink_RX8_19_PerfectPewModel_owner_I_ rfl dX8_keyOf_24 ?_
    refine lv_iload_n hx hb dX8_keyOf_27 rfl (lv_at hl 2 rfl) ?_
    obtain ⟨v5, ev5, hF0⟩ := kk_bind hF0
    refine kk_iald F hw 1 rfl ev5 dX8_keyOf_28 ?_
    refine lv_goto (tgt := 33) hx hb dX8_keyOf_29 (by decide) ?_
    exact hJ1 0 v3 v5 hF0 _ _ _ hw (lv_sub hl [] rfl)
theorem ui_X8_fingerprint_X8 : ∀ w ∈ u_ws RX8 TX8 20, w ∈ wsX8_fingerprint := by decide +kernel
theorem m_X8_fingerprint_Cond_fieldLink_RX8_47_PerfectPewModel_thrown_I_ : Cond.fieldLink RX8 47 "PerfectPewModel" "thrown" "I" ∈ wsX8_fingerprint := by decide +kernel
theorem m_X8_fingerprint_Cond_fieldLink_RX8_99_PerfectPewModel_many_I_ : Cond.fieldLink RX8 99 "PerfectPewModel" "many" "I" ∈ wsX8_fingerprint := by decide +kernel
theorem m_X8_fingerprint_Cond_fieldLink_RX8_22_PerfectPewModel_prints_I_ : Cond.fieldLink RX8 22 "PerfectPewModel" "prints" "[I" ∈ wsX8_fingerprint := by decide +kernel
set_option maxRecDepth 100000 in
set_option maxHeartbeats 4000000 in
theorem c_X8_fingerprint (l : Launch) (G : va_G) (cI cJ : ClassId) (ad : Nat → Nat) (a0 a1 a2 a3 a4 a5 a6 a7 a8 a9 a10 a11 a12 : Nat) (x_many : Int32) (x_built : Int32) (x_seed : Int32) (x_graphSeed : Int32) (x_bits : Int32) (x_bucketMany : Int32) (x_width : Int32) (x_thrown : Int32) (f_prints : Nat → Int32) (i1 : Int32) (N : Nat) (x : (Int32 × Int32)) (hF0 : F_X8_fingerprint N x_many x_built x_thrown f_prints i1 = some x) : kk_I l yX8_fingerprint wsX8_fingerprint 2 0 0 43 [.ref a0, .int i1] G cI cJ ad [(a0, .inr (8, [.ref a1, .int x_many, .int x_built, .int x_seed, .int x_graphSeed, .int x_bits, .int x_bucketMany, .int x_width, .ref a2, .ref a3, .ref a4, .ref a5, .ref a6, .ref a7, .ref a8, .ref a9, .ref a10, .ref a11, .ref a12, .int x_thrown])), (a5, .inl (cI, 120, .inl f_prints))] x.1 [(a0, .inr (8, [.ref a1, .int x_many, .int x_built, .int x_seed, .int x_graphSeed, .int x_bits, .int x_bucketMany, .int x_width, .ref a2, .ref a3, .ref a4, .ref a5, .ref a6, .ref a7, .ref a8, .ref a9, .ref a10, .ref a11, .ref a12, .int x.2])), (a5, .inl (cI, 120, .inl f_prints))] := by
  refine kk_ofI (cc := cX8_fingerprint) (maxL := 3) (by decide) rfl (Nat.le_of_ble_eq_true rfl) ?_
  intro p e s m below meth c A Q ls H locs hx hb hml hown hts hE hw hl hret
  have F : kk_at p m c cX8_fingerprint 3 s _ wsX8_fingerprint RX8 G cI cJ ad A := ⟨⟨hx, hb, hml, hown, hts⟩, hE⟩
  have hl : lv_has ls 3 [(0, .ref a0), (1, .int i1)] := hl
  unfold F_X8_fingerprint at hF0
  have hJ1 : ∀ (x_thrown_1 : Int32) (s1_1 : Int32) (s2_1 : Int32), J_X8_fingerprint_33 N x_built x_thrown_1 s1_1 s2_1 = some x → ∀ (H : Heap) (locs : List Loc) (ls : Array Slot), kk_wd G A s.heap [(a0, .inr (8, [.ref a1, .int x_many, .int x_built, .int x_seed, .int x_graphSeed, .int x_bits, .int x_bucketMany, .int x_width, .ref a2, .ref a3, .ref a4, .ref a5, .ref a6, .ref a7, .ref a8, .ref a9, .ref a10, .ref a11, .ref a12, .int x_thrown_1])), (a5, .inl (cI, 120, .inl f_prints))] H locs → lv_has ls 3 [] → W p l e (kk_rm 2 0 0 43) s m ([.ref a0, .int i1] : List Value).toArray below meth c H locs 0 0 Q (F0 m 33 ls [.int s2_1, .int s1_1, .ref a0]) := by
    intro x_thrown_1 s1_1 s2_1 hF0 H locs ls hw hl
    unfold J_X8_fingerprint_33 at hF0
    obtain ⟨v2, ev2, hF0⟩ := kk_bind hF0
    refine kk_callI 0 0 hw (kk_runV (As := [.int s1_1, .int s2_1]) (rest := []) F hw hl.1 (c_X8_told l G cI cJ ad a0 a1 a2 a3 a4 a5 a6 a7 a8 a9 a10 a11 a12 x_many x_built x_seed x_graphSeed x_bits x_bucketMany x_width x_thrown_1 s1_1 s2_1 N v2 ev2 H.size) gX8_fingerprint_X8_told rfl ⟨rfl, md_X8_told⟩ ⟨Nat.le_of_ble_eq_true rfl, Nat.le_of_ble_eq_true rfl⟩ ⟨Nat.le_of_ble_eq_true rfl, Nat.le_of_ble_eq_true rfl⟩ 0 8 rfl rfl rfl rfl (Nat.le_of_ble_eq_true rfl) dX8_fingerprint_33) ⟨rfl, rfl⟩ [0] (by decide) rfl rfl (fun H locs hw => ?_)
    have hw : kk_wd G A s.heap [(a0, .inr (8, [.ref a1, .int x_many, .int x_built, .int x_seed, .int x_graphSeed, .int x_bits, .int x_bucketMany, .int x_width, .ref a2, .ref a3, .ref a4, .ref a5, .ref a6, .ref a7, .ref a8, .ref a9, .ref a10, .ref a11, .ref a12, .int v2.2])), (a5, .inl (cI, 120, .inl f_prints))] H locs := hw
    have hy := Option.some.inj hF0
    subst hy
    exact hret dX8_fingerprint_36 (by decide) (by decide) hw
  refine lv_aload_n hx hb dX8_fingerprint_0 rfl (lv_at hl 0 rfl) ?_
  refine lv_iconst (v := 0) hx hb dX8_fingerprint_1 (by decide) ?_
  refine kk_put F hw ui_X8_fingerprint_X8 tyX8 tyX8_ok nmX8 0 rfl rfl 19 (by decide) m_X8_fingerprint_Cond_fieldLink_RX8_47_PerfectPewModel_thrown_I_ rfl rfl rfl (Nat.le_of_ble_eq_true rfl) dX8_fingerprint_2 (fun H locs hw => ?_)
  have hw : kk_wd G A s.heap [(a0, .inr (8, [.ref a1, .int x_many, .int x_built, .int x_seed, .int x_graphSeed, .int x_bits, .int x_bucketMany, .int x_width, .ref a2, .ref a3, .ref a4, .ref a5, .ref a6, .ref a7, .ref a8, .ref a9, .ref a10, .ref a11, .ref a12, .int 0])), (a5, .inl (cI, 120, .inl f_prints))] H locs := hw
  refine lv_iload_n hx hb dX8_fingerprint_5 rfl (lv_at hl 1 rfl) ?_
  refine lv_iconst (v := 0) hx hb dX8_fingerprint_6 (by decide) ?_
  refine lv_aload_n hx hb dX8_fingerprint_7 rfl (lv_at hl 0 rfl) ?_
  refine kk_get (T := TX8) F hw ui_X8_fingerprint_X8 0 rfl rfl 1 (by decide) m_X8_fingerprint_Cond_fieldLink_RX8_99_PerfectPewModel_many_I_ rfl dX8_fingerprint_8 ?_
  refine lv_iconst (v := 1) hx hb dX8_fingerprint_11 (by decide) ?_
  refine lv_isub hx hb dX8_fingerprint_12 ?_
  obtain ⟨v3, ev3, hF0⟩ := kk_bind hF0
  refine kk_callI 0 0 hw (kk_runS (As := [.int i1, .int 0, .int (x_many - 1)]) (rest := []) F hw hl.1 (c_X8_in l G cI cJ ad i1 0 (x_many - 1) N v3 ev3 H.size) gX8_fingerprint_X8_in rfl md_X8_in ⟨Nat.le_of_ble_eq_true rfl, Nat.le_of_ble_eq_true rfl⟩ ⟨Nat.le_of_ble_eq_true rfl, Nat.le_of_ble_eq_true rfl⟩ rfl (Nat.le_of_ble_eq_true rfl) dX8_fingerprint_13) ⟨rfl, rfl⟩ [] (by decide) rfl rfl (fun H locs hw => ?_)
  refine lv_istore_n (lv' := [(2, .int v3), (0, .ref a0), (1, .int i1)]) hx hb dX8_fingerprint_16 rfl hl (by decide) rfl (fun ls hl => ?_)
  refine lv_aload_n hx hb dX8_fingerprint_17 rfl (lv_at hl 1 rfl) ?_
  refine lv_iload_n hx hb dX8_fingerprint_18 rfl (lv_at hl 0 rfl) ?_
  refine lv_iload_n hx hb dX8_fingerprint_19 rfl (lv_at hl 0 rfl) ?_
  refine lv_if_eq (tgt := 32) hx hb dX8_fingerprint_20 (by decide) (fun c4 => ?_) (fun c4 => ?_)
  · have hF0 := (if_pos c4).symm.trans hF0
    refine lv_iconst (v := 0) hx hb dX8_fingerprint_32 (by decide) ?_
    exact hJ1 0 v3 0 hF0 _ _ _ hw (lv_sub hl [] rfl)
  · have hF0 := (if_neg c4).symm.trans hF0
    refine lv_aload_n hx hb dX8_fingerprint_23 rfl (lv_at hl 1 rfl) ?_
    refine kk_get (T := TX8) F hw ui_X8_fingerprint_X8 0 rfl rfl 11 (by decide) m_X8_fingerprint_Cond_fieldLink_RX8_22_PerfectPewModel_prints_I_ rfl dX8_fingerprint_24 ?_
    refine lv_iload_n hx hb dX8_fingerprint_27 rfl (lv_at hl 2 rfl) ?_
    obtain ⟨v5, ev5, hF0⟩ := kk_bind hF0
    refine kk_iald F hw 1 rfl ev5 dX8_fingerprint_28 ?_
    refine lv_goto (tgt := 33) hx hb dX8_fingerprint_29 (by decide) ?_
    exact hJ1 0 v3 v5 hF0 _ _ _ hw (lv_sub hl [] rfl)
theorem ui_X8_seed_X8 : ∀ w ∈ u_ws RX8 TX8 20, w ∈ wsX8_seed := by decide +kernel
theorem m_X8_seed_Cond_fieldLink_RX8_47_PerfectPewModel_thrown_I_ : Cond.fieldLink RX8 47 "PerfectPewModel" "thrown" "I" ∈ wsX8_seed := by decide +kernel
theorem m_X8_seed_Cond_fieldLink_RX8_162_PerfectPewModel_seed_I_ : Cond.fieldLink RX8 162 "PerfectPewModel" "seed" "I" ∈ wsX8_seed := by decide +kernel
set_option maxRecDepth 100000 in
set_option maxHeartbeats 4000000 in
theorem c_X8_seed (l : Launch) (G : va_G) (cI cJ : ClassId) (ad : Nat → Nat) (a0 a1 a2 a3 a4 a5 a6 a7 a8 a9 a10 a11 a12 : Nat) (x_many : Int32) (x_built : Int32) (x_seed : Int32) (x_graphSeed : Int32) (x_bits : Int32) (x_bucketMany : Int32) (x_width : Int32) (x_thrown : Int32) (N : Nat) (x : (Int32 × Int32)) (hF0 : F_X8_seed N x_built x_seed x_thrown = some x) : kk_I l yX8_seed wsX8_seed 2 0 0 43 [.ref a0] G cI cJ ad [(a0, .inr (8, [.ref a1, .int x_many, .int x_built, .int x_seed, .int x_graphSeed, .int x_bits, .int x_bucketMany, .int x_width, .ref a2, .ref a3, .ref a4, .ref a5, .ref a6, .ref a7, .ref a8, .ref a9, .ref a10, .ref a11, .ref a12, .int x_thrown]))] x.1 [(a0, .inr (8, [.ref a1, .int x_many, .int x_built, .int x_seed, .int x_graphSeed, .int x_bits, .int x_bucketMany, .int x_width, .ref a2, .ref a3, .ref a4, .ref a5, .ref a6, .ref a7, .ref a8, .ref a9, .ref a10, .ref a11, .ref a12, .int x.2]))] := by
  refine kk_ofI (cc := cX8_seed) (maxL := 1) (by decide) rfl (Nat.le_of_ble_eq_true rfl) ?_
  intro p e s m below meth c A Q ls H locs hx hb hml hown hts hE hw hl hret
  have F : kk_at p m c cX8_seed 1 s _ wsX8_seed RX8 G cI cJ ad A := ⟨⟨hx, hb, hml, hown, hts⟩, hE⟩
  have hl : lv_has ls 1 [(0, .ref a0)] := hl
  unfold F_X8_seed at hF0
  refine lv_aload_n hx hb dX8_seed_0 rfl (lv_at hl 0 rfl) ?_
  refine lv_iconst (v := 0) hx hb dX8_seed_1 (by decide) ?_
  refine kk_put F hw ui_X8_seed_X8 tyX8 tyX8_ok nmX8 0 rfl rfl 19 (by decide) m_X8_seed_Cond_fieldLink_RX8_47_PerfectPewModel_thrown_I_ rfl rfl rfl (Nat.le_of_ble_eq_true rfl) dX8_seed_2 (fun H locs hw => ?_)
  have hw : kk_wd G A s.heap [(a0, .inr (8, [.ref a1, .int x_many, .int x_built, .int x_seed, .int x_graphSeed, .int x_bits, .int x_bucketMany, .int x_width, .ref a2, .ref a3, .ref a4, .ref a5, .ref a6, .ref a7, .ref a8, .ref a9, .ref a10, .ref a11, .ref a12, .int 0]))] H locs := hw
  refine lv_aload_n hx hb dX8_seed_5 rfl (lv_at hl 0 rfl) ?_
  refine lv_iconst (v := 1) hx hb dX8_seed_6 (by decide) ?_
  refine lv_aload_n hx hb dX8_seed_7 rfl (lv_at hl 0 rfl) ?_
  refine kk_get (T := TX8) F hw ui_X8_seed_X8 0 rfl rfl 3 (by decide) m_X8_seed_Cond_fieldLink_RX8_162_PerfectPewModel_seed_I_ rfl dX8_seed_8 ?_
  obtain ⟨v1, ev1, hF0⟩ := kk_bind hF0
  refine kk_callI 0 0 hw (kk_runV (As := [.int 1, .int x_seed]) (rest := []) F hw hl.1 (c_X8_told l G cI cJ ad a0 a1 a2 a3 a4 a5 a6 a7 a8 a9 a10 a11 a12 x_many x_built x_seed x_graphSeed x_bits x_bucketMany x_width 0 1 x_seed N v1 ev1 H.size) gX8_seed_X8_told rfl ⟨rfl, md_X8_told⟩ ⟨Nat.le_of_ble_eq_true rfl, Nat.le_of_ble_eq_true rfl⟩ ⟨Nat.le_of_ble_eq_true rfl, Nat.le_of_ble_eq_true rfl⟩ 0 8 rfl rfl rfl rfl (Nat.le_of_ble_eq_true rfl) dX8_seed_11) ⟨rfl, rfl⟩ [0] (by decide) rfl rfl (fun H locs hw => ?_)
  have hw : kk_wd G A s.heap [(a0, .inr (8, [.ref a1, .int x_many, .int x_built, .int x_seed, .int x_graphSeed, .int x_bits, .int x_bucketMany, .int x_width, .ref a2, .ref a3, .ref a4, .ref a5, .ref a6, .ref a7, .ref a8, .ref a9, .ref a10, .ref a11, .ref a12, .int v1.2]))] H locs := hw
  have hy := Option.some.inj hF0
  subst hy
  exact hret dX8_seed_14 (by decide) (by decide) hw
theorem ui_X8_buckets_X8 : ∀ w ∈ u_ws RX8 TX8 20, w ∈ wsX8_buckets := by decide +kernel
theorem m_X8_buckets_Cond_fieldLink_RX8_47_PerfectPewModel_thrown_I_ : Cond.fieldLink RX8 47 "PerfectPewModel" "thrown" "I" ∈ wsX8_buckets := by decide +kernel
theorem m_X8_buckets_Cond_fieldLink_RX8_149_PerfectPewModel_bucketMany_I_ : Cond.fieldLink RX8 149 "PerfectPewModel" "bucketMany" "I" ∈ wsX8_buckets := by decide +kernel
set_option maxRecDepth 100000 in
set_option maxHeartbeats 4000000 in
theorem c_X8_buckets (l : Launch) (G : va_G) (cI cJ : ClassId) (ad : Nat → Nat) (a0 a1 a2 a3 a4 a5 a6 a7 a8 a9 a10 a11 a12 : Nat) (x_many : Int32) (x_built : Int32) (x_seed : Int32) (x_graphSeed : Int32) (x_bits : Int32) (x_bucketMany : Int32) (x_width : Int32) (x_thrown : Int32) (N : Nat) (x : (Int32 × Int32)) (hF0 : F_X8_buckets N x_built x_bucketMany x_thrown = some x) : kk_I l yX8_buckets wsX8_buckets 2 0 0 43 [.ref a0] G cI cJ ad [(a0, .inr (8, [.ref a1, .int x_many, .int x_built, .int x_seed, .int x_graphSeed, .int x_bits, .int x_bucketMany, .int x_width, .ref a2, .ref a3, .ref a4, .ref a5, .ref a6, .ref a7, .ref a8, .ref a9, .ref a10, .ref a11, .ref a12, .int x_thrown]))] x.1 [(a0, .inr (8, [.ref a1, .int x_many, .int x_built, .int x_seed, .int x_graphSeed, .int x_bits, .int x_bucketMany, .int x_width, .ref a2, .ref a3, .ref a4, .ref a5, .ref a6, .ref a7, .ref a8, .ref a9, .ref a10, .ref a11, .ref a12, .int x.2]))] := by
  refine kk_ofI (cc := cX8_buckets) (maxL := 1) (by decide) rfl (Nat.le_of_ble_eq_true rfl) ?_
  intro p e s m below meth c A Q ls H locs hx hb hml hown hts hE hw hl hret
  have F : kk_at p m c cX8_buckets 1 s _ wsX8_buckets RX8 G cI cJ ad A := ⟨⟨hx, hb, hml, hown, hts⟩, hE⟩
  have hl : lv_has ls 1 [(0, .ref a0)] := hl
  unfold F_X8_buckets at hF0
  refine lv_aload_n hx hb dX8_buckets_0 rfl (lv_at hl 0 rfl) ?_
  refine lv_iconst (v := 0) hx hb dX8_buckets_1 (by decide) ?_
  refine kk_put F hw ui_X8_buckets_X8 tyX8 tyX8_ok nmX8 0 rfl rfl 19 (by decide) m_X8_buckets_Cond_fieldLink_RX8_47_PerfectPewModel_thrown_I_ rfl rfl rfl (Nat.le_of_ble_eq_true rfl) dX8_buckets_2 (fun H locs hw => ?_)
  have hw : kk_wd G A s.heap [(a0, .inr (8, [.ref a1, .int x_many, .int x_built, .int x_seed, .int x_graphSeed, .int x_bits, .int x_bucketMany, .int x_width, .ref a2, .ref a3, .ref a4, .ref a5, .ref a6, .ref a7, .ref a8, .ref a9, .ref a10, .ref a11, .ref a12, .int 0]))] H locs := hw
  refine lv_aload_n hx hb dX8_buckets_5 rfl (lv_at hl 0 rfl) ?_
  refine lv_iconst (v := 1) hx hb dX8_buckets_6 (by decide) ?_
  refine lv_aload_n hx hb dX8_buckets_7 rfl (lv_at hl 0 rfl) ?_
  refine kk_get (T := TX8) F hw ui_X8_buckets_X8 0 rfl rfl 6 (by decide) m_X8_buckets_Cond_fieldLink_RX8_149_PerfectPewModel_bucketMany_I_ rfl dX8_buckets_8 ?_
  obtain ⟨v1, ev1, hF0⟩ := kk_bind hF0
  refine kk_callI 0 0 hw (kk_runV (As := [.int 1, .int x_bucketMany]) (rest := []) F hw hl.1 (c_X8_told l G cI cJ ad a0 a1 a2 a3 a4 a5 a6 a7 a8 a9 a10 a11 a12 x_many x_built x_seed x_graphSeed x_bits x_bucketMany x_width 0 1 x_bucketMany N v1 ev1 H.size) gX8_buckets_X8_told rfl ⟨rfl, md_X8_told⟩ ⟨Nat.le_of_ble_eq_true rfl, Nat.le_of_ble_eq_true rfl⟩ ⟨Nat.le_of_ble_eq_true rfl, Nat.le_of_ble_eq_true rfl⟩ 0 8 rfl rfl rfl rfl (Nat.le_of_ble_eq_true rfl) dX8_buckets_11) ⟨rfl, rfl⟩ [0] (by decide) rfl rfl (fun H locs hw => ?_)
  have hw : kk_wd G A s.heap [(a0, .inr (8, [.ref a1, .int x_many, .int x_built, .int x_seed, .int x_graphSeed, .int x_bits, .int x_bucketMany, .int x_width, .ref a2, .ref a3, .ref a4, .ref a5, .ref a6, .ref a7, .ref a8, .ref a9, .ref a10, .ref a11, .ref a12, .int v1.2]))] H locs := hw
  have hy := Option.some.inj hF0
  subst hy
  exact hret dX8_buckets_14 (by decide) (by decide) hw
theorem ui_X8_inBucket_X8 : ∀ w ∈ u_ws RX8 TX8 20, w ∈ wsX8_inBucket := by decide +kernel
theorem m_X8_inBucket_Cond_fieldLink_RX8_47_PerfectPewModel_thrown_I_ : Cond.fieldLink RX8 47 "PerfectPewModel" "thrown" "I" ∈ wsX8_inBucket := by decide +kernel
theorem m_X8_inBucket_Cond_fieldLink_RX8_149_PerfectPewModel_bucketMany_I_ : Cond.fieldLink RX8 149 "PerfectPewModel" "bucketMany" "I" ∈ wsX8_inBucket := by decide +kernel
theorem m_X8_inBucket_Cond_fieldLink_RX8_13_PerfectPewModel_sizes_I_ : Cond.fieldLink RX8 13 "PerfectPewModel" "sizes" "[I" ∈ wsX8_inBucket := by decide +kernel
set_option maxRecDepth 100000 in
set_option maxHeartbeats 4000000 in
theorem c_X8_inBucket (l : Launch) (G : va_G) (cI cJ : ClassId) (ad : Nat → Nat) (a0 a1 a2 a3 a4 a5 a6 a7 a8 a9 a10 a11 a12 : Nat) (x_many : Int32) (x_built : Int32) (x_seed : Int32) (x_graphSeed : Int32) (x_bits : Int32) (x_bucketMany : Int32) (x_width : Int32) (x_thrown : Int32) (f_sizes : Nat → Int32) (i1 : Int32) (N : Nat) (x : (Int32 × Int32)) (hF0 : F_X8_inBucket N x_built x_bucketMany x_thrown f_sizes i1 = some x) : kk_I l yX8_inBucket wsX8_inBucket 2 0 0 43 [.ref a0, .int i1] G cI cJ ad [(a0, .inr (8, [.ref a1, .int x_many, .int x_built, .int x_seed, .int x_graphSeed, .int x_bits, .int x_bucketMany, .int x_width, .ref a2, .ref a3, .ref a4, .ref a5, .ref a6, .ref a7, .ref a8, .ref a9, .ref a10, .ref a11, .ref a12, .int x_thrown])), (a2, .inl (cI, 120, .inl f_sizes))] x.1 [(a0, .inr (8, [.ref a1, .int x_many, .int x_built, .int x_seed, .int x_graphSeed, .int x_bits, .int x_bucketMany, .int x_width, .ref a2, .ref a3, .ref a4, .ref a5, .ref a6, .ref a7, .ref a8, .ref a9, .ref a10, .ref a11, .ref a12, .int x.2])), (a2, .inl (cI, 120, .inl f_sizes))] := by
  refine kk_ofI (cc := cX8_inBucket) (maxL := 3) (by decide) rfl (Nat.le_of_ble_eq_true rfl) ?_
  intro p e s m below meth c A Q ls H locs hx hb hml hown hts hE hw hl hret
  have F : kk_at p m c cX8_inBucket 3 s _ wsX8_inBucket RX8 G cI cJ ad A := ⟨⟨hx, hb, hml, hown, hts⟩, hE⟩
  have hl : lv_has ls 3 [(0, .ref a0), (1, .int i1)] := hl
  unfold F_X8_inBucket at hF0
  have hJ1 : ∀ (x_thrown_1 : Int32) (s1_1 : Int32) (s2_1 : Int32), J_X8_inBucket_33 N x_built x_thrown_1 s1_1 s2_1 = some x → ∀ (H : Heap) (locs : List Loc) (ls : Array Slot), kk_wd G A s.heap [(a0, .inr (8, [.ref a1, .int x_many, .int x_built, .int x_seed, .int x_graphSeed, .int x_bits, .int x_bucketMany, .int x_width, .ref a2, .ref a3, .ref a4, .ref a5, .ref a6, .ref a7, .ref a8, .ref a9, .ref a10, .ref a11, .ref a12, .int x_thrown_1])), (a2, .inl (cI, 120, .inl f_sizes))] H locs → lv_has ls 3 [] → W p l e (kk_rm 2 0 0 43) s m ([.ref a0, .int i1] : List Value).toArray below meth c H locs 0 0 Q (F0 m 33 ls [.int s2_1, .int s1_1, .ref a0]) := by
    intro x_thrown_1 s1_1 s2_1 hF0 H locs ls hw hl
    unfold J_X8_inBucket_33 at hF0
    obtain ⟨v2, ev2, hF0⟩ := kk_bind hF0
    refine kk_callI 0 0 hw (kk_runV (As := [.int s1_1, .int s2_1]) (rest := []) F hw hl.1 (c_X8_told l G cI cJ ad a0 a1 a2 a3 a4 a5 a6 a7 a8 a9 a10 a11 a12 x_many x_built x_seed x_graphSeed x_bits x_bucketMany x_width x_thrown_1 s1_1 s2_1 N v2 ev2 H.size) gX8_inBucket_X8_told rfl ⟨rfl, md_X8_told⟩ ⟨Nat.le_of_ble_eq_true rfl, Nat.le_of_ble_eq_true rfl⟩ ⟨Nat.le_of_ble_eq_true rfl, Nat.le_of_ble_eq_true rfl⟩ 0 8 rfl rfl rfl rfl (Nat.le_of_ble_eq_true rfl) dX8_inBucket_33) ⟨rfl, rfl⟩ [0] (by decide) rfl rfl (fun H locs hw => ?_)
    have hw : kk_wd G A s.heap [(a0, .inr (8, [.ref a1, .int x_many, .int x_built, .int x_seed, .int x_graphSeed, .int x_bits, .int x_bucketMany, .int x_width, .ref a2, .ref a3, .ref a4, .ref a5, .ref a6, .ref a7, .ref a8, .ref a9, .ref a10, .ref a11, .ref a12, .int v2.2])), (a2, .inl (cI, 120, .inl f_sizes))] H locs := hw
    have hy := Option.some.inj hF0
    subst hy
    exact hret dX8_inBucket_36 (by decide) (by decide) hw
  refine lv_aload_n hx hb dX8_inBucket_0 rfl (lv_at hl 0 rfl) ?_
  refine lv_iconst (v := 0) hx hb dX8_inBucket_1 (by decide) ?_
  refine kk_put F hw ui_X8_inBucket_X8 tyX8 tyX8_ok nmX8 0 rfl rfl 19 (by decide) m_X8_inBucket_Cond_fieldLink_RX8_47_PerfectPewModel_thrown_I_ rfl rfl rfl (Nat.le_of_ble_eq_true rfl) dX8_inBucket_2 (fun H locs hw => ?_)
  have hw : kk_wd G A s.heap [(a0, .inr (8, [.ref a1, .int x_many, .int x_built, .int x_seed, .int x_graphSeed, .int x_bits, .int x_bucketMany, .int x_width, .ref a2, .ref a3, .ref a4, .ref a5, .ref a6, .ref a7, .ref a8, .ref a9, .ref a10, .ref a11, .ref a12, .int 0])), (a2, .inl (cI, 120, .inl f_sizes))] H locs := hw
  refine lv_iload_n hx hb dX8_inBucket_5 rfl (lv_at hl 1 rfl) ?_
  refine lv_iconst (v := 0) hx hb dX8_inBucket_6 (by decide) ?_
  refine lv_aload_n hx hb dX8_inBucket_7 rfl (lv_at hl 0 rfl) ?_
  refine kk_get (T := TX8) F hw ui_X8_inBucket_X8 0 rfl rfl 6 (by decide) m_X8_inBucket_Cond_fieldLink_RX8_149_PerfectPewModel_bucketMany_I_ rfl dX8_inBucket_8 ?_
  refine lv_iconst (v := 1) hx hb dX8_inBucket_11 (by decide) ?_
  refine lv_isub hx hb dX8_inBucket_12 ?_
  obtain ⟨v3, ev3, hF0⟩ := kk_bind hF0
  refine kk_callI 0 0 hw (kk_runS (As := [.int i1, .int 0, .int (x_bucketMany - 1)]) (rest := []) F hw hl.1 (c_X8_in l G cI cJ ad i1 0 (x_bucketMany - 1) N v3 ev3 H.size) gX8_inBucket_X8_in rfl md_X8_in ⟨Nat.le_of_ble_eq_true rfl, Nat.le_of_ble_eq_true rfl⟩ ⟨Nat.le_of_ble_eq_true rfl, Nat.le_of_ble_eq_true rfl⟩ rfl (Nat.le_of_ble_eq_true rfl) dX8_inBucket_13) ⟨rfl, rfl⟩ [] (by decide) rfl rfl (fun H locs hw => ?_)
  refine lv_istore_n (lv' := [(2, .int v3), (0, .ref a0), (1, .int i1)]) hx hb dX8_inBucket_16 rfl hl (by decide) rfl (fun ls hl => ?_)
  refine lv_aload_n hx hb dX8_inBucket_17 rfl (lv_at hl 1 rfl) ?_
  refine lv_iload_n hx hb dX8_inBucket_18 rfl (lv_at hl 0 rfl) ?_
  refine lv_iload_n hx hb dX8_inBucket_19 rfl (lv_at hl 0 rfl) ?_
  refine lv_if_eq (tgt := 32) hx hb dX8_inBucket_20 (by decide) (fun c4 => ?_) (fun c4 => ?_)
  · have hF0 := (if_pos c4).symm.trans hF0
    refine lv_iconst (v := 0) hx hb dX8_inBucket_32 (by decide) ?_
    exact hJ1 0 v3 0 hF0 _ _ _ hw (lv_sub hl [] rfl)
  · have hF0 := (if_neg c4).symm.trans hF0
    refine lv_aload_n hx hb dX8_inBucket_23 rfl (lv_at hl 1 rfl) ?_
    refine kk_get (T := TX8) F hw ui_X8_inBucket_X8 0 rfl rfl 8 (by decide) m_X8_inBucket_Cond_fieldLink_RX8_13_PerfectPewModel_sizes_I_ rfl dX8_inBucket_24 ?_
    refine lv_iload_n hx hb dX8_inBucket_27 rfl (lv_at hl 2 rfl) ?_
    obtain ⟨v5, ev5, hF0⟩ := kk_bind hF0
    refine kk_iald F hw 1 rfl ev5 dX8_inBucket_28 ?_
    refine lv_goto (tgt := 33) hx hb dX8_inBucket_29 (by decide) ?_
    exact hJ1 0 v3 v5 hF0 _ _ _ hw (lv_sub hl [] rfl)
theorem ui_X8_displacement_X8 : ∀ w ∈ u_ws RX8 TX8 20, w ∈ wsX8_displacement := by decide +kernel
theorem m_X8_displacement_Cond_fieldLink_RX8_47_PerfectPewModel_thrown_I_ : Cond.fieldLink RX8 47 "PerfectPewModel" "thrown" "I" ∈ wsX8_displacement := by decide +kernel
theorem m_X8_displacement_Cond_fieldLink_RX8_149_PerfectPewModel_bucketMany_I_ : Cond.fieldLink RX8 149 "PerfectPewModel" "bucketMany" "I" ∈ wsX8_displacement := by decide +kernel
theorem m_X8_displacement_Cond_fieldLink_RX8_16_PerfectPewModel_shift_I_ : Cond.fieldLink RX8 16 "PerfectPewModel" "shift" "[I" ∈ wsX8_displacement := by decide +kernel
set_option maxRecDepth 100000 in
set_option maxHeartbeats 4000000 in
theorem c_X8_displacement (l : Launch) (G : va_G) (cI cJ : ClassId) (ad : Nat → Nat) (a0 a1 a2 a3 a4 a5 a6 a7 a8 a9 a10 a11 a12 : Nat) (x_many : Int32) (x_built : Int32) (x_seed : Int32) (x_graphSeed : Int32) (x_bits : Int32) (x_bucketMany : Int32) (x_width : Int32) (x_thrown : Int32) (f_shift : Nat → Int32) (i1 : Int32) (N : Nat) (x : (Int32 × Int32)) (hF0 : F_X8_displacement N x_built x_bucketMany x_thrown f_shift i1 = some x) : kk_I l yX8_displacement wsX8_displacement 2 0 0 43 [.ref a0, .int i1] G cI cJ ad [(a0, .inr (8, [.ref a1, .int x_many, .int x_built, .int x_seed, .int x_graphSeed, .int x_bits, .int x_bucketMany, .int x_width, .ref a2, .ref a3, .ref a4, .ref a5, .ref a6, .ref a7, .ref a8, .ref a9, .ref a10, .ref a11, .ref a12, .int x_thrown])), (a3, .inl (cI, 120, .inl f_shift))] x.1 [(a0, .inr (8, [.ref a1, .int x_many, .int x_built, .int x_seed, .int x_graphSeed, .int x_bits, .int x_bucketMany, .int x_width, .ref a2, .ref a3, .ref a4, .ref a5, .ref a6, .ref a7, .ref a8, .ref a9, .ref a10, .ref a11, .ref a12, .int x.2])), (a3, .inl (cI, 120, .inl f_shift))] := by
  refine kk_ofI (cc := cX8_displacement) (maxL := 3) (by decide) rfl (Nat.le_of_ble_eq_true rfl) ?_
  intro p e s m below meth c A Q ls H locs hx hb hml hown hts hE hw hl hret
  have F : kk_at p m c cX8_displacement 3 s _ wsX8_displacement RX8 G cI cJ ad A := ⟨⟨hx, hb, hml, hown, hts⟩, hE⟩
  have hl : lv_has ls 3 [(0, .ref a0), (1, .int i1)] := hl
  unfold F_X8_displacement at hF0
  have hJ1 : ∀ (x_thrown_1 : Int32) (s1_1 : Int32) (s2_1 : Int32), J_X8_displacement_33 N x_built x_thrown_1 s1_1 s2_1 = some x → ∀ (H : Heap) (locs : List Loc) (ls : Array Slot), kk_wd G A s.heap [(a0, .inr (8, [.ref a1, .int x_many, .int x_built, .int x_seed, .int x_graphSeed, .int x_bits, .int x_bucketMany, .int x_width, .ref a2, .ref a3, .ref a4, .ref a5, .ref a6, .ref a7, .ref a8, .ref a9, .ref a10, .ref a11, .ref a12, .int x_thrown_1])), (a3, .inl (cI, 120, .inl f_shift))] H locs → lv_has ls 3 [] → W p l e (kk_rm 2 0 0 43) s m ([.ref a0, .int i1] : List Value).toArray below meth c H locs 0 0 Q (F0 m 33 ls [.int s2_1, .int s1_1, .ref a0]) := by
    intro x_thrown_1 s1_1 s2_1 hF0 H locs ls hw hl
    unfold J_X8_displacement_33 at hF0
    obtain ⟨v2, ev2, hF0⟩ := kk_bind hF0
    refine kk_callI 0 0 hw (kk_runV (As := [.int s1_1, .int s2_1]) (rest := []) F hw hl.1 (c_X8_told l G cI cJ ad a0 a1 a2 a3 a4 a5 a6 a7 a8 a9 a10 a11 a12 x_many x_built x_seed x_graphSeed x_bits x_bucketMany x_width x_thrown_1 s1_1 s2_1 N v2 ev2 H.size) gX8_displacement_X8_told rfl ⟨rfl, md_X8_told⟩ ⟨Nat.le_of_ble_eq_true rfl, Nat.le_of_ble_eq_true rfl⟩ ⟨Nat.le_of_ble_eq_true rfl, Nat.le_of_ble_eq_true rfl⟩ 0 8 rfl rfl rfl rfl (Nat.le_of_ble_eq_true rfl) dX8_displacement_33) ⟨rfl, rfl⟩ [0] (by decide) rfl rfl (fun H locs hw => ?_)
    have hw : kk_wd G A s.heap [(a0, .inr (8, [.ref a1, .int x_many, .int x_built, .int x_seed, .int x_graphSeed, .int x_bits, .int x_bucketMany, .int x_width, .ref a2, .ref a3, .ref a4, .ref a5, .ref a6, .ref a7, .ref a8, .ref a9, .ref a10, .ref a11, .ref a12, .int v2.2])), (a3, .inl (cI, 120, .inl f_shift))] H locs := hw
    have hy := Option.some.inj hF0
    subst hy
    exact hret dX8_displacement_36 (by decide) (by decide) hw
  refine lv_aload_n hx hb dX8_displacement_0 rfl (lv_at hl 0 rfl) ?_
  refine lv_iconst (v := 0) hx hb dX8_displacement_1 (by decide) ?_
  refine kk_put F hw ui_X8_displacement_X8 tyX8 tyX8_ok nmX8 0 rfl rfl 19 (by decide) m_X8_displacement_Cond_fieldLink_RX8_47_PerfectPewModel_thrown_I_ rfl rfl rfl (Nat.le_of_ble_eq_true rfl) dX8_displacement_2 (fun H locs hw => ?_)
  have hw : kk_wd G A s.heap [(a0, .inr (8, [.ref a1, .int x_many, .int x_built, .int x_seed, .int x_graphSeed, .int x_bits, .int x_bucketMany, .int x_width, .ref a2, .ref a3, .ref a4, .ref a5, .ref a6, .ref a7, .ref a8, .ref a9, .ref a10, .ref a11, .ref a12, .int 0])), (a3, .inl (cI, 120, .inl f_shift))] H locs := hw
  refine lv_iload_n hx hb dX8_displacement_5 rfl (lv_at hl 1 rfl) ?_
  refine lv_iconst (v := 0) hx hb dX8_displacement_6 (by decide) ?_
  refine lv_aload_n hx hb dX8_displacement_7 rfl (lv_at hl 0 rfl) ?_
  refine kk_get (T := TX8) F hw ui_X8_displacement_X8 0 rfl rfl 6 (by decide) m_X8_displacement_Cond_fieldLink_RX8_149_PerfectPewModel_bucketMany_I_ rfl dX8_displacement_8 ?_
  refine lv_iconst (v := 1) hx hb dX8_displacement_11 (by decide) ?_
  refine lv_isub hx hb dX8_displacement_12 ?_
  obtain ⟨v3, ev3, hF0⟩ := kk_bind hF0
  refine kk_callI 0 0 hw (kk_runS (As := [.int i1, .int 0, .int (x_bucketMany - 1)]) (rest := []) F hw hl.1 (c_X8_in l G cI cJ ad i1 0 (x_bucketMany - 1) N v3 ev3 H.size) gX8_displacement_X8_in rfl md_X8_in ⟨Nat.le_of_ble_eq_true rfl, Nat.le_of_ble_eq_true rfl⟩ ⟨Nat.le_of_ble_eq_true rfl, Nat.le_of_ble_eq_true rfl⟩ rfl (Nat.le_of_ble_eq_true rfl) dX8_displacement_13) ⟨rfl, rfl⟩ [] (by decide) rfl rfl (fun H locs hw => ?_)
  refine lv_istore_n (lv' := [(2, .int v3), (0, .ref a0), (1, .int i1)]) hx hb dX8_displacement_16 rfl hl (by decide) rfl (fun ls hl => ?_)
  refine lv_aload_n hx hb dX8_displacement_17 rfl (lv_at hl 1 rfl) ?_
  refine lv_iload_n hx hb dX8_displacement_18 rfl (lv_at hl 0 rfl) ?_
  refine lv_iload_n hx hb dX8_displacement_19 rfl (lv_at hl 0 rfl) ?_
  refine lv_if_eq (tgt := 32) hx hb dX8_displacement_20 (by decide) (fun c4 => ?_) (fun c4 => ?_)
  · have hF0 := (if_pos c4).symm.trans hF0
    refine lv_iconst (v := 0) hx hb dX8_displacement_32 (by decide) ?_
    exact hJ1 0 v3 0 hF0 _ _ _ hw (lv_sub hl [] rfl)
  · have hF0 := (if_neg c4).symm.trans hF0
    refine lv_aload_n hx hb dX8_displacement_23 rfl (lv_at hl 1 rfl) ?_
    refine kk_get (T := TX8) F hw ui_X8_displacement_X8 0 rfl rfl 9 (by decide) m_X8_displacement_Cond_fieldLink_RX8_16_PerfectPewModel_shift_I_ rfl dX8_displacement_24 ?_
    refine lv_iload_n hx hb dX8_displacement_27 rfl (lv_at hl 2 rfl) ?_
    obtain ⟨v5, ev5, hF0⟩ := kk_bind hF0
    refine kk_iald F hw 1 rfl ev5 dX8_displacement_28 ?_
    refine lv_goto (tgt := 33) hx hb dX8_displacement_29 (by decide) ?_
    exact hJ1 0 v3 v5 hF0 _ _ _ hw (lv_sub hl [] rfl)
theorem ui_X8_width_X8 : ∀ w ∈ u_ws RX8 TX8 20, w ∈ wsX8_width := by decide +kernel
theorem m_X8_width_Cond_fieldLink_RX8_47_PerfectPewModel_thrown_I_ : Cond.fieldLink RX8 47 "PerfectPewModel" "thrown" "I" ∈ wsX8_width := by decide +kernel
theorem m_X8_width_Cond_fieldLink_RX8_152_PerfectPewModel_width_I_ : Cond.fieldLink RX8 152 "PerfectPewModel" "width" "I" ∈ wsX8_width := by decide +kernel
set_option maxRecDepth 100000 in
set_option maxHeartbeats 4000000 in
theorem c_X8_width (l : Launch) (G : va_G) (cI cJ : ClassId) (ad : Nat → Nat) (a0 a1 a2 a3 a4 a5 a6 a7 a8 a9 a10 a11 a12 : Nat) (x_many : Int32) (x_built : Int32) (x_seed : Int32) (x_graphSeed : Int32) (x_bits : Int32) (x_bucketMany : Int32) (x_width : Int32) (x_thrown : Int32) (N : Nat) (x : (Int32 × Int32)) (hF0 : F_X8_width N x_built x_width x_thrown = some x) : kk_I l yX8_width wsX8_width 2 0 0 43 [.ref a0] G cI cJ ad [(a0, .inr (8, [.ref a1, .int x_many, .int x_built, .int x_seed, .int x_graphSeed, .int x_bits, .int x_bucketMany, .int x_width, .ref a2, .ref a3, .ref a4, .ref a5, .ref a6, .ref a7, .ref a8, .ref a9, .ref a10, .ref a11, .ref a12, .int x_thrown]))] x.1 [(a0, .inr (8, [.ref a1, .int x_many, .int x_built, .int x_seed, .int x_graphSeed, .int x_bits, .int x_bucketMany, .int x_width, .ref a2, .ref a3, .ref a4, .ref a5, .ref a6, .ref a7, .ref a8, .ref a9, .ref a10, .ref a11, .ref a12, .int x.2]))] := by
  refine kk_ofI (cc := cX8_width) (maxL := 1) (by decide) rfl (Nat.le_of_ble_eq_true rfl) ?_
  intro p e s m below meth c A Q ls H locs hx hb hml hown hts hE hw hl hret
  have F : kk_at p m c cX8_width 1 s _ wsX8_width RX8 G cI cJ ad A := ⟨⟨hx, hb, hml, hown, hts⟩, hE⟩
  have hl : lv_has ls 1 [(0, .ref a0)] := hl
  unfold F_X8_width at hF0
  refine lv_aload_n hx hb dX8_width_0 rfl (lv_at hl 0 rfl) ?_
  refine lv_iconst (v := 0) hx hb dX8_width_1 (by decide) ?_
  refine kk_put F hw ui_X8_width_X8 tyX8 tyX8_ok nmX8 0 rfl rfl 19 (by decide) m_X8_width_Cond_fieldLink_RX8_47_PerfectPewModel_thrown_I_ rfl rfl rfl (Nat.le_of_ble_eq_true rfl) dX8_width_2 (fun H locs hw => ?_)
  have hw : kk_wd G A s.heap [(a0, .inr (8, [.ref a1, .int x_many, .int x_built, .int x_seed, .int x_graphSeed, .int x_bits, .int x_bucketMany, .int x_width, .ref a2, .ref a3, .ref a4, .ref a5, .ref a6, .ref a7, .ref a8, .ref a9, .ref a10, .ref a11, .ref a12, .int 0]))] H locs := hw
  refine lv_aload_n hx hb dX8_width_5 rfl (lv_at hl 0 rfl) ?_
  refine lv_iconst (v := 1) hx hb dX8_width_6 (by decide) ?_
  refine lv_aload_n hx hb dX8_width_7 rfl (lv_at hl 0 rfl) ?_
  refine kk_get (T := TX8) F hw ui_X8_width_X8 0 rfl rfl 7 (by decide) m_X8_width_Cond_fieldLink_RX8_152_PerfectPewModel_width_I_ rfl dX8_width_8 ?_
  obtain ⟨v1, ev1, hF0⟩ := kk_bind hF0
  refine kk_callI 0 0 hw (kk_runV (As := [.int 1, .int x_width]) (rest := []) F hw hl.1 (c_X8_told l G cI cJ ad a0 a1 a2 a3 a4 a5 a6 a7 a8 a9 a10 a11 a12 x_many x_built x_seed x_graphSeed x_bits x_bucketMany x_width 0 1 x_width N v1 ev1 H.size) gX8_width_X8_told rfl ⟨rfl, md_X8_told⟩ ⟨Nat.le_of_ble_eq_true rfl, Nat.le_of_ble_eq_true rfl⟩ ⟨Nat.le_of_ble_eq_true rfl, Nat.le_of_ble_eq_true rfl⟩ 0 8 rfl rfl rfl rfl (Nat.le_of_ble_eq_true rfl) dX8_width_11) ⟨rfl, rfl⟩ [0] (by decide) rfl rfl (fun H locs hw => ?_)
  have hw : kk_wd G A s.heap [(a0, .inr (8, [.ref a1, .int x_many, .int x_built, .int x_seed, .int x_graphSeed, .int x_bits, .int x_bucketMany, .int x_width, .ref a2, .ref a3, .ref a4, .ref a5, .ref a6, .ref a7, .ref a8, .ref a9, .ref a10, .ref a11, .ref a12, .int v1.2]))] H locs := hw
  have hy := Option.some.inj hF0
  subst hy
  exact hret dX8_width_14 (by decide) (by decide) hw
theorem ui_X8_word_X8 : ∀ w ∈ u_ws RX8 TX8 20, w ∈ wsX8_word := by decide +kernel
theorem m_X8_word_Cond_fieldLink_RX8_47_PerfectPewModel_thrown_I_ : Cond.fieldLink RX8 47 "PerfectPewModel" "thrown" "I" ∈ wsX8_word := by decide +kernel
theorem m_X8_word_Cond_fieldLink_RX8_114_PerfectPewModel_built_Z_ : Cond.fieldLink RX8 114 "PerfectPewModel" "built" "Z" ∈ wsX8_word := by decide +kernel
theorem m_X8_word_Cond_fieldLink_RX8_149_PerfectPewModel_bucketMany_I_ : Cond.fieldLink RX8 149 "PerfectPewModel" "bucketMany" "I" ∈ wsX8_word := by decide +kernel
theorem m_X8_word_Cond_fieldLink_RX8_152_PerfectPewModel_width_I_ : Cond.fieldLink RX8 152 "PerfectPewModel" "width" "I" ∈ wsX8_word := by decide +kernel
theorem m_X8_word_Cond_fieldLink_RX8_34_PerfectPewModel_words_J_ : Cond.fieldLink RX8 34 "PerfectPewModel" "words" "[J" ∈ wsX8_word := by decide +kernel
set_option maxRecDepth 100000 in
set_option maxHeartbeats 4000000 in
theorem c_X8_word (l : Launch) (G : va_G) (cI cJ : ClassId) (ad : Nat → Nat) (a0 a1 a2 a3 a4 a5 a6 a7 a8 a9 a10 a11 a12 : Nat) (x_many : Int32) (x_built : Int32) (x_seed : Int32) (x_graphSeed : Int32) (x_bits : Int32) (x_bucketMany : Int32) (x_width : Int32) (x_thrown : Int32) (f_words : Nat → Int64) (i1 : Int32) (N : Nat) (x : (Int64 × Int32)) (hF0 : F_X8_word N x_built x_bucketMany x_width x_thrown f_words i1 = some x) : kk_L l yX8_word wsX8_word 1 0 0 22 [.ref a0, .int i1] G cI cJ ad [(a0, .inr (8, [.ref a1, .int x_many, .int x_built, .int x_seed, .int x_graphSeed, .int x_bits, .int x_bucketMany, .int x_width, .ref a2, .ref a3, .ref a4, .ref a5, .ref a6, .ref a7, .ref a8, .ref a9, .ref a10, .ref a11, .ref a12, .int x_thrown])), (a9, .inl (cJ, 20, .inr (.inl f_words)))] x.1 [(a0, .inr (8, [.ref a1, .int x_many, .int x_built, .int x_seed, .int x_graphSeed, .int x_bits, .int x_bucketMany, .int x_width, .ref a2, .ref a3, .ref a4, .ref a5, .ref a6, .ref a7, .ref a8, .ref a9, .ref a10, .ref a11, .ref a12, .int x.2])), (a9, .inl (cJ, 20, .inr (.inl f_words)))] := by
  refine kk_ofL (cc := cX8_word) (maxL := 2) (by decide) rfl (Nat.le_of_ble_eq_true rfl) ?_
  intro p e s m below meth c A Q ls H locs hx hb hml hown hts hE hw hl hret
  have F : kk_at p m c cX8_word 2 s _ wsX8_word RX8 G cI cJ ad A := ⟨⟨hx, hb, hml, hown, hts⟩, hE⟩
  have hl : lv_has ls 2 [(0, .ref a0), (1, .int i1)] := hl
  unfold F_X8_word at hF0
  have hJ1 : ∀ (x_thrown_1 : Int32) (s0_1 : Int64), J_X8_word_56 N x_thrown_1 s0_1 = some x → ∀ (H : Heap) (locs : List Loc) (ls : Array Slot), kk_wd G A s.heap [(a0, .inr (8, [.ref a1, .int x_many, .int x_built, .int x_seed, .int x_graphSeed, .int x_bits, .int x_bucketMany, .int x_width, .ref a2, .ref a3, .ref a4, .ref a5, .ref a6, .ref a7, .ref a8, .ref a9, .ref a10, .ref a11, .ref a12, .int x_thrown_1])), (a9, .inl (cJ, 20, .inr (.inl f_words)))] H locs → lv_has ls 2 [] → W p l e (kk_rm 1 0 0 22) s m ([.ref a0, .int i1] : List Value).toArray below meth c H locs 0 0 Q (F0 m 56 ls [.long s0_1]) := by
    intro x_thrown_1 s0_1 hF0 H locs ls hw hl
    unfold J_X8_word_56 at hF0
    have hy := Option.some.inj hF0
    subst hy
    exact hret dX8_word_56 (by decide) (by decide) hw
  refine lv_aload_n hx hb dX8_word_0 rfl (lv_at hl 0 rfl) ?_
  refine lv_iconst (v := 0) hx hb dX8_word_1 (by decide) ?_
  refine kk_put F hw ui_X8_word_X8 tyX8 tyX8_ok nmX8 0 rfl rfl 19 (by decide) m_X8_word_Cond_fieldLink_RX8_47_PerfectPewModel_thrown_I_ rfl rfl rfl (Nat.le_of_ble_eq_true rfl) dX8_word_2 (fun H locs hw => ?_)
  have hw : kk_wd G A s.heap [(a0, .inr (8, [.ref a1, .int x_many, .int x_built, .int x_seed, .int x_graphSeed, .int x_bits, .int x_bucketMany, .int x_width, .ref a2, .ref a3, .ref a4, .ref a5, .ref a6, .ref a7, .ref a8, .ref a9, .ref a10, .ref a11, .ref a12, .int 0])), (a9, .inl (cJ, 20, .inr (.inl f_words)))] H locs := hw
  refine lv_aload_n hx hb dX8_word_5 rfl (lv_at hl 0 rfl) ?_
  refine kk_get (T := TX8) F hw ui_X8_word_X8 0 rfl rfl 2 (by decide) m_X8_word_Cond_fieldLink_RX8_114_PerfectPewModel_built_Z_ rfl dX8_word_6 ?_
  refine lv_if_ne (tgt := 19) hx hb dX8_word_9 (by decide) (fun c2 => ?_) (fun c2 => ?_)
  · have hF0 := (if_neg c2).symm.trans hF0
    refine lv_iload_n hx hb dX8_word_19 rfl (lv_at hl 1 rfl) ?_
    refine lv_iconst (v := 0) hx hb dX8_word_20 (by decide) ?_
    refine lv_aload_n hx hb dX8_word_21 rfl (lv_at hl 0 rfl) ?_
    refine kk_get (T := TX8) F hw ui_X8_word_X8 0 rfl rfl 6 (by decide) m_X8_word_Cond_fieldLink_RX8_149_PerfectPewModel_bucketMany_I_ rfl dX8_word_22 ?_
    refine lv_aload_n hx hb dX8_word_25 rfl (lv_at hl 0 rfl) ?_
    refine kk_get (T := TX8) F hw ui_X8_word_X8 0 rfl rfl 7 (by decide) m_X8_word_Cond_fieldLink_RX8_152_PerfectPewModel_width_I_ rfl dX8_word_26 ?_
    refine lv_imul hx hb dX8_word_29 ?_
    refine lv_iconst (v := 1) hx hb dX8_word_30 (by decide) ?_
    refine lv_isub hx hb dX8_word_31 ?_
    refine lv_bipush (v := 64) hx hb dX8_word_32 (by decide) ?_
    refine lv_idiv hx hb dX8_word_34 (by decide) ?_
    obtain ⟨v3, ev3, hF0⟩ := kk_bind hF0
    refine kk_callI 0 0 hw (kk_runS (As := [.int i1, .int 0, .int (kk_div ((x_bucketMany * x_width) - 1) 64)]) (rest := []) F hw hl.1 (c_X8_in l G cI cJ ad i1 0 (kk_div ((x_bucketMany * x_width) - 1) 64) N v3 ev3 H.size) gX8_word_X8_in rfl md_X8_in ⟨Nat.le_of_ble_eq_true rfl, Nat.le_of_ble_eq_true rfl⟩ ⟨Nat.le_of_ble_eq_true rfl, Nat.le_of_ble_eq_true rfl⟩ rfl (Nat.le_of_ble_eq_true rfl) dX8_word_35) ⟨rfl, rfl⟩ [] (by decide) rfl rfl (fun H locs hw => ?_)
    refine lv_if_eq (tgt := 50) hx hb dX8_word_38 (by decide) (fun c4 => ?_) (fun c4 => ?_)
    · have hF0 := (if_pos c4).symm.trans hF0
      refine lv_aload_n hx hb dX8_word_50 rfl (lv_at hl 0 rfl) ?_
      refine lv_iconst (v := 2) hx hb dX8_word_51 (by decide) ?_
      obtain ⟨v5, ev5, hF0⟩ := kk_bind hF0
      refine kk_callI 0 0 hw (kk_runV (As := [.int 2]) (rest := []) F hw hl.1 (c_X8_fails l G cI cJ ad a0 a1 a2 a3 a4 a5 a6 a7 a8 a9 a10 a11 a12 x_many x_built x_seed x_graphSeed x_bits x_bucketMany x_width 0 2 N v5 ev5 H.size) gX8_word_X8_fails rfl ⟨rfl, md_X8_fails⟩ ⟨Nat.le_of_ble_eq_true rfl, Nat.le_of_ble_eq_true rfl⟩ ⟨Nat.le_of_ble_eq_true rfl, Nat.le_of_ble_eq_true rfl⟩ 0 8 rfl rfl rfl rfl (Nat.le_of_ble_eq_true rfl) dX8_word_52) ⟨rfl, rfl⟩ [0] (by decide) rfl rfl (fun H locs hw => ?_)
      have hw : kk_wd G A s.heap [(a0, .inr (8, [.ref a1, .int x_many, .int x_built, .int x_seed, .int x_graphSeed, .int x_bits, .int x_bucketMany, .int x_width, .ref a2, .ref a3, .ref a4, .ref a5, .ref a6, .ref a7, .ref a8, .ref a9, .ref a10, .ref a11, .ref a12, .int v5.2])), (a9, .inl (cJ, 20, .inr (.inl f_words)))] H locs := hw
      refine lv_i2l hx hb dX8_word_55 rfl ?_
      exact hJ1 v5.2 (Int32.toInt64 v5.1) hF0 _ _ _ hw (lv_sub hl [] rfl)
    · have hF0 := (if_neg c4).symm.trans hF0
      refine lv_aload_n hx hb dX8_word_41 rfl (lv_at hl 0 rfl) ?_
      refine kk_get (T := TX8) F hw ui_X8_word_X8 0 rfl rfl 15 (by decide) m_X8_word_Cond_fieldLink_RX8_34_PerfectPewModel_words_J_ rfl dX8_word_42 ?_
      refine lv_iload_n hx hb dX8_word_45 rfl (lv_at hl 1 rfl) ?_
      obtain ⟨v6, ev6, hF0⟩ := kk_bind hF0
      refine kk_lald F hw 1 rfl ev6 dX8_word_46 ?_
      refine lv_goto (tgt := 56) hx hb dX8_word_47 (by decide) ?_
      exact hJ1 0 v6 hF0 _ _ _ hw (lv_sub hl [] rfl)
  · have hF0 := (if_pos c2).symm.trans hF0
    refine lv_aload_n hx hb dX8_word_12 rfl (lv_at hl 0 rfl) ?_
    refine lv_iconst (v := 1) hx hb dX8_word_13 (by decide) ?_
    obtain ⟨v7, ev7, hF0⟩ := kk_bind hF0
    refine kk_callI 0 0 hw (kk_runV (As := [.int 1]) (rest := []) F hw hl.1 (c_X8_fails l G cI cJ ad a0 a1 a2 a3 a4 a5 a6 a7 a8 a9 a10 a11 a12 x_many x_built x_seed x_graphSeed x_bits x_bucketMany x_width 0 1 N v7 ev7 H.size) gX8_word_X8_fails rfl ⟨rfl, md_X8_fails⟩ ⟨Nat.le_of_ble_eq_true rfl, Nat.le_of_ble_eq_true rfl⟩ ⟨Nat.le_of_ble_eq_true rfl, Nat.le_of_ble_eq_true rfl⟩ 0 8 rfl rfl rfl rfl (Nat.le_of_ble_eq_true rfl) dX8_word_14) ⟨rfl, rfl⟩ [0] (by decide) rfl rfl (fun H locs hw => ?_)
    have hw : kk_wd G A s.heap [(a0, .inr (8, [.ref a1, .int x_many, .int x_built, .int x_seed, .int x_graphSeed, .int x_bits, .int x_bucketMany, .int x_width, .ref a2, .ref a3, .ref a4, .ref a5, .ref a6, .ref a7, .ref a8, .ref a9, .ref a10, .ref a11, .ref a12, .int v7.2])), (a9, .inl (cJ, 20, .inr (.inl f_words)))] H locs := hw
    refine lv_i2l hx hb dX8_word_17 rfl ?_
    have hy := Option.some.inj hF0
    subst hy
    exact hret dX8_word_18 (by decide) (by decide) hw
theorem ui_X8_byGraph_X8 : ∀ w ∈ u_ws RX8 TX8 20, w ∈ wsX8_byGraph := by decide +kernel
theorem m_X8_byGraph_Cond_fieldLink_RX8_47_PerfectPewModel_thrown_I_ : Cond.fieldLink RX8 47 "PerfectPewModel" "thrown" "I" ∈ wsX8_byGraph := by decide +kernel
theorem m_X8_byGraph_Cond_constant_RX8_106_99999_ : Cond.constant RX8 106 (99999) ∈ wsX8_byGraph := by decide +kernel
theorem m_X8_byGraph_Cond_fieldLink_RX8_114_PerfectPewModel_built_Z_ : Cond.fieldLink RX8 114 "PerfectPewModel" "built" "Z" ∈ wsX8_byGraph := by decide +kernel
theorem m_X8_byGraph_Cond_fieldLink_RX8_38_PerfectPewModel_values_I_ : Cond.fieldLink RX8 38 "PerfectPewModel" "values" "[I" ∈ wsX8_byGraph := by decide +kernel
theorem m_X8_byGraph_Cond_fieldLink_RX8_165_PerfectPewModel_graphSeed_I_ : Cond.fieldLink RX8 165 "PerfectPewModel" "graphSeed" "I" ∈ wsX8_byGraph := by decide +kernel
theorem m_X8_byGraph_Cond_fieldLink_RX8_99_PerfectPewModel_many_I_ : Cond.fieldLink RX8 99 "PerfectPewModel" "many" "I" ∈ wsX8_byGraph := by decide +kernel
set_option maxRecDepth 100000 in
set_option maxHeartbeats 4000000 in
theorem c_X8_byGraph (l : Launch) (G : va_G) (cI cJ : ClassId) (ad : Nat → Nat) (a0 a1 a2 a3 a4 a5 a6 a7 a8 a9 a10 a11 a12 : Nat) (x_many : Int32) (x_built : Int32) (x_seed : Int32) (x_graphSeed : Int32) (x_bits : Int32) (x_bucketMany : Int32) (x_width : Int32) (x_thrown : Int32) (f_values : Nat → Int32) (i1 : Int32) (N : Nat) (x : (Int32 × Int32)) (hF0 : F_X8_byGraph N x_many x_built x_graphSeed x_thrown f_values i1 = some x) : kk_I l yX8_byGraph wsX8_byGraph 2 0 0 42 [.ref a0, .int i1] G cI cJ ad [(a0, .inr (8, [.ref a1, .int x_many, .int x_built, .int x_seed, .int x_graphSeed, .int x_bits, .int x_bucketMany, .int x_width, .ref a2, .ref a3, .ref a4, .ref a5, .ref a6, .ref a7, .ref a8, .ref a9, .ref a10, .ref a11, .ref a12, .int x_thrown])), (a10, .inl (cI, 360, .inl f_values))] x.1 [(a0, .inr (8, [.ref a1, .int x_many, .int x_built, .int x_seed, .int x_graphSeed, .int x_bits, .int x_bucketMany, .int x_width, .ref a2, .ref a3, .ref a4, .ref a5, .ref a6, .ref a7, .ref a8, .ref a9, .ref a10, .ref a11, .ref a12, .int x.2])), (a10, .inl (cI, 360, .inl f_values))] := by
  refine kk_ofI (cc := cX8_byGraph) (maxL := 2) (by decide) rfl (Nat.le_of_ble_eq_true rfl) ?_
  intro p e s m below meth c A Q ls H locs hx hb hml hown hts hE hw hl hret
  have F : kk_at p m c cX8_byGraph 2 s _ wsX8_byGraph RX8 G cI cJ ad A := ⟨⟨hx, hb, hml, hown, hts⟩, hE⟩
  have hl : lv_has ls 2 [(0, .ref a0), (1, .int i1)] := hl
  unfold F_X8_byGraph at hF0
  refine lv_aload_n hx hb dX8_byGraph_0 rfl (lv_at hl 0 rfl) ?_
  refine lv_iconst (v := 0) hx hb dX8_byGraph_1 (by decide) ?_
  refine kk_put F hw ui_X8_byGraph_X8 tyX8 tyX8_ok nmX8 0 rfl rfl 19 (by decide) m_X8_byGraph_Cond_fieldLink_RX8_47_PerfectPewModel_thrown_I_ rfl rfl rfl (Nat.le_of_ble_eq_true rfl) dX8_byGraph_2 (fun H locs hw => ?_)
  have hw : kk_wd G A s.heap [(a0, .inr (8, [.ref a1, .int x_many, .int x_built, .int x_seed, .int x_graphSeed, .int x_bits, .int x_bucketMany, .int x_width, .ref a2, .ref a3, .ref a4, .ref a5, .ref a6, .ref a7, .ref a8, .ref a9, .ref a10, .ref a11, .ref a12, .int 0])), (a10, .inl (cI, 360, .inl f_values))] H locs := hw
  refine lv_iload_n hx hb dX8_byGraph_5 rfl (lv_at hl 1 rfl) ?_
  refine lv_iconst (v := 0) hx hb dX8_byGraph_6 (by decide) ?_
  refine lv_ldc hx hb hown (hts _ m_X8_byGraph_Cond_constant_RX8_106_99999_) dX8_byGraph_7 ?_
  obtain ⟨v1, ev1, hF0⟩ := kk_bind hF0
  refine kk_callI 0 0 hw (kk_runS (As := [.int i1, .int 0, .int 99999]) (rest := []) F hw hl.1 (c_X8_in l G cI cJ ad i1 0 99999 N v1 ev1 H.size) gX8_byGraph_X8_in rfl md_X8_in ⟨Nat.le_of_ble_eq_true rfl, Nat.le_of_ble_eq_true rfl⟩ ⟨Nat.le_of_ble_eq_true rfl, Nat.le_of_ble_eq_true rfl⟩ rfl (Nat.le_of_ble_eq_true rfl) dX8_byGraph_9) ⟨rfl, rfl⟩ [] (by decide) rfl rfl (fun H locs hw => ?_)
  refine lv_if_ne (tgt := 21) hx hb dX8_byGraph_12 (by decide) (fun c2 => ?_) (fun c2 => ?_)
  · have hF0 := (if_neg c2).symm.trans hF0
    refine lv_aload_n hx hb dX8_byGraph_21 rfl (lv_at hl 0 rfl) ?_
    refine kk_get (T := TX8) F hw ui_X8_byGraph_X8 0 rfl rfl 2 (by decide) m_X8_byGraph_Cond_fieldLink_RX8_114_PerfectPewModel_built_Z_ rfl dX8_byGraph_22 ?_
    refine lv_if_ne (tgt := 34) hx hb dX8_byGraph_25 (by decide) (fun c3 => ?_) (fun c3 => ?_)
    · have hF0 := (if_neg c3).symm.trans hF0
      refine lv_aload_n hx hb dX8_byGraph_34 rfl (lv_at hl 0 rfl) ?_
      refine kk_get (T := TX8) F hw ui_X8_byGraph_X8 0 rfl rfl 16 (by decide) m_X8_byGraph_Cond_fieldLink_RX8_38_PerfectPewModel_values_I_ rfl dX8_byGraph_35 ?_
      refine lv_iconst (v := 4) hx hb dX8_byGraph_38 (by decide) ?_
      refine lv_iload_n hx hb dX8_byGraph_39 rfl (lv_at hl 1 rfl) ?_
      refine lv_aload_n hx hb dX8_byGraph_40 rfl (lv_at hl 0 rfl) ?_
      refine kk_get (T := TX8) F hw ui_X8_byGraph_X8 0 rfl rfl 4 (by decide) m_X8_byGraph_Cond_fieldLink_RX8_165_PerfectPewModel_graphSeed_I_ rfl dX8_byGraph_41 ?_
      obtain ⟨v4, ev4, hF0⟩ := kk_bind hF0
      refine kk_callI 0 0 hw (kk_runS (As := [.int 4, .int i1, .int x_graphSeed]) (rest := [.ref a10]) F hw hl.1 (c_X8_hash l G cI cJ ad 4 i1 x_graphSeed N v4 ev4 H.size) gX8_byGraph_X8_hash rfl md_X8_hash ⟨Nat.le_of_ble_eq_true rfl, Nat.le_of_ble_eq_true rfl⟩ ⟨Nat.le_of_ble_eq_true rfl, Nat.le_of_ble_eq_true rfl⟩ rfl (Nat.le_of_ble_eq_true rfl) dX8_byGraph_44) ⟨rfl, rfl⟩ [] (by decide) rfl rfl (fun H locs hw => ?_)
      refine lv_iconst (v := 3) hx hb dX8_byGraph_47 (by decide) ?_
      refine lv_aload_n hx hb dX8_byGraph_48 rfl (lv_at hl 0 rfl) ?_
      refine kk_get (T := TX8) F hw ui_X8_byGraph_X8 0 rfl rfl 1 (by decide) m_X8_byGraph_Cond_fieldLink_RX8_99_PerfectPewModel_many_I_ rfl dX8_byGraph_49 ?_
      refine lv_imul hx hb dX8_byGraph_52 ?_
      obtain ⟨u5, eu5, hF0⟩ := kk_bind hF0
      refine lv_irem hx hb dX8_byGraph_53 (kk_nz_ok eu5) ?_
      obtain ⟨v6, ev6, hF0⟩ := kk_bind hF0
      refine kk_iald F hw 1 rfl ev6 dX8_byGraph_54 ?_
      refine lv_aload_n hx hb dX8_byGraph_55 rfl (lv_at hl 0 rfl) ?_
      refine kk_get (T := TX8) F hw ui_X8_byGraph_X8 0 rfl rfl 16 (by decide) m_X8_byGraph_Cond_fieldLink_RX8_38_PerfectPewModel_values_I_ rfl dX8_byGraph_56 ?_
      refine lv_iconst (v := 5) hx hb dX8_byGraph_59 (by decide) ?_
      refine lv_iload_n hx hb dX8_byGraph_60 rfl (lv_at hl 1 rfl) ?_
      refine lv_aload_n hx hb dX8_byGraph_61 rfl (lv_at hl 0 rfl) ?_
      refine kk_get (T := TX8) F hw ui_X8_byGraph_X8 0 rfl rfl 4 (by decide) m_X8_byGraph_Cond_fieldLink_RX8_165_PerfectPewModel_graphSeed_I_ rfl dX8_byGraph_62 ?_
      obtain ⟨v7, ev7, hF0⟩ := kk_bind hF0
      refine kk_callI 0 0 hw (kk_runS (As := [.int 5, .int i1, .int x_graphSeed]) (rest := [.ref a10, .int v6]) F hw hl.1 (c_X8_hash l G cI cJ ad 5 i1 x_graphSeed N v7 ev7 H.size) gX8_byGraph_X8_hash rfl md_X8_hash ⟨Nat.le_of_ble_eq_true rfl, Nat.le_of_ble_eq_true rfl⟩ ⟨Nat.le_of_ble_eq_true rfl, Nat.le_of_ble_eq_true rfl⟩ rfl (Nat.le_of_ble_eq_true rfl) dX8_byGraph_65) ⟨rfl, rfl⟩ [] (by decide) rfl rfl (fun H locs hw => ?_)
      refine lv_iconst (v := 3) hx hb dX8_byGraph_68 (by decide) ?_
      refine lv_aload_n hx hb dX8_byGraph_69 rfl (lv_at hl 0 rfl) ?_
      refine kk_get (T := TX8) F hw ui_X8_byGraph_X8 0 rfl rfl 1 (by decide) m_X8_byGraph_Cond_fieldLink_RX8_99_PerfectPewModel_many_I_ rfl dX8_byGraph_70 ?_
      refine lv_imul hx hb dX8_byGraph_73 ?_
      obtain ⟨u8, eu8, hF0⟩ := kk_bind hF0
      refine lv_irem hx hb dX8_byGraph_74 (kk_nz_ok eu8) ?_
      obtain ⟨v9, ev9, hF0⟩ := kk_bind hF0
      refine kk_iald F hw 1 rfl ev9 dX8_byGraph_75 ?_
      refine lv_iadd hx hb dX8_byGraph_76 ?_
      refine lv_aload_n hx hb dX8_byGraph_77 rfl (lv_at hl 0 rfl) ?_
      refine kk_get (T := TX8) F hw ui_X8_byGraph_X8 0 rfl rfl 1 (by decide) m_X8_byGraph_Cond_fieldLink_RX8_99_PerfectPewModel_many_I_ rfl dX8_byGraph_78 ?_
      obtain ⟨u10, eu10, hF0⟩ := kk_bind hF0
      refine lv_irem hx hb dX8_byGraph_81 (kk_nz_ok eu10) ?_
      have hy := Option.some.inj hF0
      subst hy
      exact hret dX8_byGraph_82 (by decide) (by decide) hw
    · have hF0 := (if_pos c3).symm.trans hF0
      refine lv_aload_n hx hb dX8_byGraph_28 rfl (lv_at hl 0 rfl) ?_
      refine lv_iconst (v := 2) hx hb dX8_byGraph_29 (by decide) ?_
      obtain ⟨v11, ev11, hF0⟩ := kk_bind hF0
      refine kk_callI 0 0 hw (kk_runV (As := [.int 2]) (rest := []) F hw hl.1 (c_X8_fails l G cI cJ ad a0 a1 a2 a3 a4 a5 a6 a7 a8 a9 a10 a11 a12 x_many x_built x_seed x_graphSeed x_bits x_bucketMany x_width 0 2 N v11 ev11 H.size) gX8_byGraph_X8_fails rfl ⟨rfl, md_X8_fails⟩ ⟨Nat.le_of_ble_eq_true rfl, Nat.le_of_ble_eq_true rfl⟩ ⟨Nat.le_of_ble_eq_true rfl, Nat.le_of_ble_eq_true rfl⟩ 0 8 rfl rfl rfl rfl (Nat.le_of_ble_eq_true rfl) dX8_byGraph_30) ⟨rfl, rfl⟩ [0] (by decide) rfl rfl (fun H locs hw => ?_)
      have hw : kk_wd G A s.heap [(a0, .inr (8, [.ref a1, .int x_many, .int x_built, .int x_seed, .int x_graphSeed, .int x_bits, .int x_bucketMany, .int x_width, .ref a2, .ref a3, .ref a4, .ref a5, .ref a6, .ref a7, .ref a8, .ref a9, .ref a10, .ref a11, .ref a12, .int v11.2])), (a10, .inl (cI, 360, .inl f_values))] H locs := hw
      have hy := Option.some.inj hF0
      subst hy
      exact hret dX8_byGraph_33 (by decide) (by decide) hw
  · have hF0 := (if_pos c2).symm.trans hF0
    refine lv_aload_n hx hb dX8_byGraph_15 rfl (lv_at hl 0 rfl) ?_
    refine lv_iconst (v := 1) hx hb dX8_byGraph_16 (by decide) ?_
    obtain ⟨v12, ev12, hF0⟩ := kk_bind hF0
    refine kk_callI 0 0 hw (kk_runV (As := [.int 1]) (rest := []) F hw hl.1 (c_X8_fails l G cI cJ ad a0 a1 a2 a3 a4 a5 a6 a7 a8 a9 a10 a11 a12 x_many x_built x_seed x_graphSeed x_bits x_bucketMany x_width 0 1 N v12 ev12 H.size) gX8_byGraph_X8_fails rfl ⟨rfl, md_X8_fails⟩ ⟨Nat.le_of_ble_eq_true rfl, Nat.le_of_ble_eq_true rfl⟩ ⟨Nat.le_of_ble_eq_true rfl, Nat.le_of_ble_eq_true rfl⟩ 0 8 rfl rfl rfl rfl (Nat.le_of_ble_eq_true rfl) dX8_byGraph_17) ⟨rfl, rfl⟩ [0] (by decide) rfl rfl (fun H locs hw => ?_)
    have hw : kk_wd G A s.heap [(a0, .inr (8, [.ref a1, .int x_many, .int x_built, .int x_seed, .int x_graphSeed, .int x_bits, .int x_bucketMany, .int x_width, .ref a2, .ref a3, .ref a4, .ref a5, .ref a6, .ref a7, .ref a8, .ref a9, .ref a10, .ref a11, .ref a12, .int v12.2])), (a10, .inl (cI, 360, .inl f_values))] H locs := hw
    have hy := Option.some.inj hF0
    subst hy
    exact hret dX8_byGraph_20 (by decide) (by decide) hw
theorem ui_X8_graphSeed_X8 : ∀ w ∈ u_ws RX8 TX8 20, w ∈ wsX8_graphSeed := by decide +kernel
theorem m_X8_graphSeed_Cond_fieldLink_RX8_47_PerfectPewModel_thrown_I_ : Cond.fieldLink RX8 47 "PerfectPewModel" "thrown" "I" ∈ wsX8_graphSeed := by decide +kernel
theorem m_X8_graphSeed_Cond_fieldLink_RX8_165_PerfectPewModel_graphSeed_I_ : Cond.fieldLink RX8 165 "PerfectPewModel" "graphSeed" "I" ∈ wsX8_graphSeed := by decide +kernel
set_option maxRecDepth 100000 in
set_option maxHeartbeats 4000000 in
theorem c_X8_graphSeed (l : Launch) (G : va_G) (cI cJ : ClassId) (ad : Nat → Nat) (a0 a1 a2 a3 a4 a5 a6 a7 a8 a9 a10 a11 a12 : Nat) (x_many : Int32) (x_built : Int32) (x_seed : Int32) (x_graphSeed : Int32) (x_bits : Int32) (x_bucketMany : Int32) (x_width : Int32) (x_thrown : Int32) (N : Nat) (x : (Int32 × Int32)) (hF0 : F_X8_graphSeed N x_built x_graphSeed x_thrown = some x) : kk_I l yX8_graphSeed wsX8_graphSeed 2 0 0 43 [.ref a0] G cI cJ ad [(a0, .inr (8, [.ref a1, .int x_many, .int x_built, .int x_seed, .int x_graphSeed, .int x_bits, .int x_bucketMany, .int x_width, .ref a2, .ref a3, .ref a4, .ref a5, .ref a6, .ref a7, .ref a8, .ref a9, .ref a10, .ref a11, .ref a12, .int x_thrown]))] x.1 [(a0, .inr (8, [.ref a1, .int x_many, .int x_built, .int x_seed, .int x_graphSeed, .int x_bits, .int x_bucketMany, .int x_width, .ref a2, .ref a3, .ref a4, .ref a5, .ref a6, .ref a7, .ref a8, .ref a9, .ref a10, .ref a11, .ref a12, .int x.2]))] := by
  refine kk_ofI (cc := cX8_graphSeed) (maxL := 1) (by decide) rfl (Nat.le_of_ble_eq_true rfl) ?_
  intro p e s m below meth c A Q ls H locs hx hb hml hown hts hE hw hl hret
  have F : kk_at p m c cX8_graphSeed 1 s _ wsX8_graphSeed RX8 G cI cJ ad A := ⟨⟨hx, hb, hml, hown, hts⟩, hE⟩
  have hl : lv_has ls 1 [(0, .ref a0)] := hl
  unfold F_X8_graphSeed at hF0
  refine lv_aload_n hx hb dX8_graphSeed_0 rfl (lv_at hl 0 rfl) ?_
  refine lv_iconst (v := 0) hx hb dX8_graphSeed_1 (by decide) ?_
  refine kk_put F hw ui_X8_graphSeed_X8 tyX8 tyX8_ok nmX8 0 rfl rfl 19 (by decide) m_X8_graphSeed_Cond_fieldLink_RX8_47_PerfectPewModel_thrown_I_ rfl rfl rfl (Nat.le_of_ble_eq_true rfl) dX8_graphSeed_2 (fun H locs hw => ?_)
  have hw : kk_wd G A s.heap [(a0, .inr (8, [.ref a1, .int x_many, .int x_built, .int x_seed, .int x_graphSeed, .int x_bits, .int x_bucketMany, .int x_width, .ref a2, .ref a3, .ref a4, .ref a5, .ref a6, .ref a7, .ref a8, .ref a9, .ref a10, .ref a11, .ref a12, .int 0]))] H locs := hw
  refine lv_aload_n hx hb dX8_graphSeed_5 rfl (lv_at hl 0 rfl) ?_
  refine lv_iconst (v := 1) hx hb dX8_graphSeed_6 (by decide) ?_
  refine lv_aload_n hx hb dX8_graphSeed_7 rfl (lv_at hl 0 rfl) ?_
  refine kk_get (T := TX8) F hw ui_X8_graphSeed_X8 0 rfl rfl 4 (by decide) m_X8_graphSeed_Cond_fieldLink_RX8_165_PerfectPewModel_graphSeed_I_ rfl dX8_graphSeed_8 ?_
  obtain ⟨v1, ev1, hF0⟩ := kk_bind hF0
  refine kk_callI 0 0 hw (kk_runV (As := [.int 1, .int x_graphSeed]) (rest := []) F hw hl.1 (c_X8_told l G cI cJ ad a0 a1 a2 a3 a4 a5 a6 a7 a8 a9 a10 a11 a12 x_many x_built x_seed x_graphSeed x_bits x_bucketMany x_width 0 1 x_graphSeed N v1 ev1 H.size) gX8_graphSeed_X8_told rfl ⟨rfl, md_X8_told⟩ ⟨Nat.le_of_ble_eq_true rfl, Nat.le_of_ble_eq_true rfl⟩ ⟨Nat.le_of_ble_eq_true rfl, Nat.le_of_ble_eq_true rfl⟩ 0 8 rfl rfl rfl rfl (Nat.le_of_ble_eq_true rfl) dX8_graphSeed_11) ⟨rfl, rfl⟩ [0] (by decide) rfl rfl (fun H locs hw => ?_)
  have hw : kk_wd G A s.heap [(a0, .inr (8, [.ref a1, .int x_many, .int x_built, .int x_seed, .int x_graphSeed, .int x_bits, .int x_bucketMany, .int x_width, .ref a2, .ref a3, .ref a4, .ref a5, .ref a6, .ref a7, .ref a8, .ref a9, .ref a10, .ref a11, .ref a12, .int v1.2]))] H locs := hw
  have hy := Option.some.inj hF0
  subst hy
  exact hret dX8_graphSeed_14 (by decide) (by decide) hw
theorem ui_X8_valueOf_X8 : ∀ w ∈ u_ws RX8 TX8 20, w ∈ wsX8_valueOf := by decide +kernel
theorem m_X8_valueOf_Cond_fieldLink_RX8_47_PerfectPewModel_thrown_I_ : Cond.fieldLink RX8 47 "PerfectPewModel" "thrown" "I" ∈ wsX8_valueOf := by decide +kernel
theorem m_X8_valueOf_Cond_fieldLink_RX8_99_PerfectPewModel_many_I_ : Cond.fieldLink RX8 99 "PerfectPewModel" "many" "I" ∈ wsX8_valueOf := by decide +kernel
theorem m_X8_valueOf_Cond_fieldLink_RX8_38_PerfectPewModel_values_I_ : Cond.fieldLink RX8 38 "PerfectPewModel" "values" "[I" ∈ wsX8_valueOf := by decide +kernel
set_option maxRecDepth 100000 in
set_option maxHeartbeats 4000000 in
theorem c_X8_valueOf (l : Launch) (G : va_G) (cI cJ : ClassId) (ad : Nat → Nat) (a0 a1 a2 a3 a4 a5 a6 a7 a8 a9 a10 a11 a12 : Nat) (x_many : Int32) (x_built : Int32) (x_seed : Int32) (x_graphSeed : Int32) (x_bits : Int32) (x_bucketMany : Int32) (x_width : Int32) (x_thrown : Int32) (f_values : Nat → Int32) (i1 : Int32) (N : Nat) (x : (Int32 × Int32)) (hF0 : F_X8_valueOf N x_many x_built x_thrown f_values i1 = some x) : kk_I l yX8_valueOf wsX8_valueOf 2 0 0 43 [.ref a0, .int i1] G cI cJ ad [(a0, .inr (8, [.ref a1, .int x_many, .int x_built, .int x_seed, .int x_graphSeed, .int x_bits, .int x_bucketMany, .int x_width, .ref a2, .ref a3, .ref a4, .ref a5, .ref a6, .ref a7, .ref a8, .ref a9, .ref a10, .ref a11, .ref a12, .int x_thrown])), (a10, .inl (cI, 360, .inl f_values))] x.1 [(a0, .inr (8, [.ref a1, .int x_many, .int x_built, .int x_seed, .int x_graphSeed, .int x_bits, .int x_bucketMany, .int x_width, .ref a2, .ref a3, .ref a4, .ref a5, .ref a6, .ref a7, .ref a8, .ref a9, .ref a10, .ref a11, .ref a12, .int x.2])), (a10, .inl (cI, 360, .inl f_values))] := by
  refine kk_ofI (cc := cX8_valueOf) (maxL := 3) (by decide) rfl (Nat.le_of_ble_eq_true rfl) ?_
  intro p e s m below meth c A Q ls H locs hx hb hml hown hts hE hw hl hret
  have F : kk_at p m c cX8_valueOf 3 s _ wsX8_valueOf RX8 G cI cJ ad A := ⟨⟨hx, hb, hml, hown, hts⟩, hE⟩
  have hl : lv_has ls 3 [(0, .ref a0), (1, .int i1)] := hl
  unfold F_X8_valueOf at hF0
  have hJ1 : ∀ (x_thrown_1 : Int32) (s1_1 : Int32) (s2_1 : Int32), J_X8_valueOf_35 N x_built x_thrown_1 s1_1 s2_1 = some x → ∀ (H : Heap) (locs : List Loc) (ls : Array Slot), kk_wd G A s.heap [(a0, .inr (8, [.ref a1, .int x_many, .int x_built, .int x_seed, .int x_graphSeed, .int x_bits, .int x_bucketMany, .int x_width, .ref a2, .ref a3, .ref a4, .ref a5, .ref a6, .ref a7, .ref a8, .ref a9, .ref a10, .ref a11, .ref a12, .int x_thrown_1])), (a10, .inl (cI, 360, .inl f_values))] H locs → lv_has ls 3 [] → W p l e (kk_rm 2 0 0 43) s m ([.ref a0, .int i1] : List Value).toArray below meth c H locs 0 0 Q (F0 m 35 ls [.int s2_1, .int s1_1, .ref a0]) := by
    intro x_thrown_1 s1_1 s2_1 hF0 H locs ls hw hl
    unfold J_X8_valueOf_35 at hF0
    obtain ⟨v2, ev2, hF0⟩ := kk_bind hF0
    refine kk_callI 0 0 hw (kk_runV (As := [.int s1_1, .int s2_1]) (rest := []) F hw hl.1 (c_X8_told l G cI cJ ad a0 a1 a2 a3 a4 a5 a6 a7 a8 a9 a10 a11 a12 x_many x_built x_seed x_graphSeed x_bits x_bucketMany x_width x_thrown_1 s1_1 s2_1 N v2 ev2 H.size) gX8_valueOf_X8_told rfl ⟨rfl, md_X8_told⟩ ⟨Nat.le_of_ble_eq_true rfl, Nat.le_of_ble_eq_true rfl⟩ ⟨Nat.le_of_ble_eq_true rfl, Nat.le_of_ble_eq_true rfl⟩ 0 8 rfl rfl rfl rfl (Nat.le_of_ble_eq_true rfl) dX8_valueOf_35) ⟨rfl, rfl⟩ [0] (by decide) rfl rfl (fun H locs hw => ?_)
    have hw : kk_wd G A s.heap [(a0, .inr (8, [.ref a1, .int x_many, .int x_built, .int x_seed, .int x_graphSeed, .int x_bits, .int x_bucketMany, .int x_width, .ref a2, .ref a3, .ref a4, .ref a5, .ref a6, .ref a7, .ref a8, .ref a9, .ref a10, .ref a11, .ref a12, .int v2.2])), (a10, .inl (cI, 360, .inl f_values))] H locs := hw
    have hy := Option.some.inj hF0
    subst hy
    exact hret dX8_valueOf_38 (by decide) (by decide) hw
  refine lv_aload_n hx hb dX8_valueOf_0 rfl (lv_at hl 0 rfl) ?_
  refine lv_iconst (v := 0) hx hb dX8_valueOf_1 (by decide) ?_
  refine kk_put F hw ui_X8_valueOf_X8 tyX8 tyX8_ok nmX8 0 rfl rfl 19 (by decide) m_X8_valueOf_Cond_fieldLink_RX8_47_PerfectPewModel_thrown_I_ rfl rfl rfl (Nat.le_of_ble_eq_true rfl) dX8_valueOf_2 (fun H locs hw => ?_)
  have hw : kk_wd G A s.heap [(a0, .inr (8, [.ref a1, .int x_many, .int x_built, .int x_seed, .int x_graphSeed, .int x_bits, .int x_bucketMany, .int x_width, .ref a2, .ref a3, .ref a4, .ref a5, .ref a6, .ref a7, .ref a8, .ref a9, .ref a10, .ref a11, .ref a12, .int 0])), (a10, .inl (cI, 360, .inl f_values))] H locs := hw
  refine lv_iload_n hx hb dX8_valueOf_5 rfl (lv_at hl 1 rfl) ?_
  refine lv_iconst (v := 0) hx hb dX8_valueOf_6 (by decide) ?_
  refine lv_iconst (v := 3) hx hb dX8_valueOf_7 (by decide) ?_
  refine lv_aload_n hx hb dX8_valueOf_8 rfl (lv_at hl 0 rfl) ?_
  refine kk_get (T := TX8) F hw ui_X8_valueOf_X8 0 rfl rfl 1 (by decide) m_X8_valueOf_Cond_fieldLink_RX8_99_PerfectPewModel_many_I_ rfl dX8_valueOf_9 ?_
  refine lv_imul hx hb dX8_valueOf_12 ?_
  refine lv_iconst (v := 1) hx hb dX8_valueOf_13 (by decide) ?_
  refine lv_isub hx hb dX8_valueOf_14 ?_
  obtain ⟨v3, ev3, hF0⟩ := kk_bind hF0
  refine kk_callI 0 0 hw (kk_runS (As := [.int i1, .int 0, .int ((3 * x_many) - 1)]) (rest := []) F hw hl.1 (c_X8_in l G cI cJ ad i1 0 ((3 * x_many) - 1) N v3 ev3 H.size) gX8_valueOf_X8_in rfl md_X8_in ⟨Nat.le_of_ble_eq_true rfl, Nat.le_of_ble_eq_true rfl⟩ ⟨Nat.le_of_ble_eq_true rfl, Nat.le_of_ble_eq_true rfl⟩ rfl (Nat.le_of_ble_eq_true rfl) dX8_valueOf_15) ⟨rfl, rfl⟩ [] (by decide) rfl rfl (fun H locs hw => ?_)
  refine lv_istore_n (lv' := [(2, .int v3), (0, .ref a0), (1, .int i1)]) hx hb dX8_valueOf_18 rfl hl (by decide) rfl (fun ls hl => ?_)
  refine lv_aload_n hx hb dX8_valueOf_19 rfl (lv_at hl 1 rfl) ?_
  refine lv_iload_n hx hb dX8_valueOf_20 rfl (lv_at hl 0 rfl) ?_
  refine lv_iload_n hx hb dX8_valueOf_21 rfl (lv_at hl 0 rfl) ?_
  refine lv_if_eq (tgt := 34) hx hb dX8_valueOf_22 (by decide) (fun c4 => ?_) (fun c4 => ?_)
  · have hF0 := (if_pos c4).symm.trans hF0
    refine lv_iconst (v := 0) hx hb dX8_valueOf_34 (by decide) ?_
    exact hJ1 0 v3 0 hF0 _ _ _ hw (lv_sub hl [] rfl)
  · have hF0 := (if_neg c4).symm.trans hF0
    refine lv_aload_n hx hb dX8_valueOf_25 rfl (lv_at hl 1 rfl) ?_
    refine kk_get (T := TX8) F hw ui_X8_valueOf_X8 0 rfl rfl 16 (by decide) m_X8_valueOf_Cond_fieldLink_RX8_38_PerfectPewModel_values_I_ rfl dX8_valueOf_26 ?_
    refine lv_iload_n hx hb dX8_valueOf_29 rfl (lv_at hl 2 rfl) ?_
    obtain ⟨v5, ev5, hF0⟩ := kk_bind hF0
    refine kk_iald F hw 1 rfl ev5 dX8_valueOf_30 ?_
    refine lv_goto (tgt := 35) hx hb dX8_valueOf_31 (by decide) ?_
    exact hJ1 0 v3 v5 hF0 _ _ _ hw (lv_sub hl [] rfl)
