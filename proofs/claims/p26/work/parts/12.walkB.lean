theorem m_X0_bucketOf_Cond_fieldLink_RX0_146_PerfectPew_Hash_BUCKET_LPerfectPew_Hash_ : Cond.fieldLink RX0 146 "PerfectPew$Hash" "BUCKET" "LPerfectPew$Hash;" ∈ wsX0_bucketOf := by decide +kernel
theorem ui_X0_bucketOf_X0 : ∀ w ∈ u_ws RX0 TX0 9, w ∈ wsX0_bucketOf := by decide +kernel
theorem m_X0_bucketOf_Cond_fieldLink_RX0_57_PerfectPew_Displacer_seed_I_ : Cond.fieldLink RX0 57 "PerfectPew$Displacer" "seed" "I" ∈ wsX0_bucketOf := by decide +kernel
theorem m_X0_bucketOf_Cond_fieldLink_RX0_54_PerfectPew_Displacer_bucketCount_I_ : Cond.fieldLink RX0 54 "PerfectPew$Displacer" "bucketCount" "I" ∈ wsX0_bucketOf := by decide +kernel
theorem m_X0_bucketOf_Cond_initialized_yX7_remainder_cls : Cond.initialized yX7_remainder.cls ∈ wsX0_bucketOf := by decide +kernel
theorem m_X0_bucketOf_Cond_static_yX7_remainder : Cond.static yX7_remainder ∈ wsX0_bucketOf := by decide +kernel
theorem m_X0_bucketOf_Cond_initialized_yX3_of_cls : Cond.initialized yX3_of.cls ∈ wsX0_bucketOf := by decide +kernel
theorem m_X0_bucketOf_Cond_instanceMethod_yX3_of : Cond.instanceMethod yX3_of ∈ wsX0_bucketOf := by decide +kernel
theorem m_X0_bucketOf_Cond_selects_RX3_yX3_of_yX3_of : Cond.selects RX3 yX3_of yX3_of ∈ wsX0_bucketOf := by decide +kernel
set_option maxRecDepth 100000 in
set_option maxHeartbeats 4000000 in
theorem c_X0_bucketOf (l : Launch) (G : va_G) (cI cJ : ClassId) (ad : Nat → Nat) (a0 a1 a8 a10 a12 a14 a16 : Nat) (x_keyCount : Int32) (x_bucketCount : Int32) (x_seed : Int32) (i1 : Int32) (N : Nat) (x : Int32) (hF0 : F_X0_bucketOf N x_bucketCount x_seed i1 = some x) : kk_I l yX0_bucketOf wsX0_bucketOf 1 0 0 22 [.ref a0, .int i1] G cI cJ ad [(a0, .inr (0, [.ref a1, .ref a8, .ref a10, .ref a12, .ref a14, .ref a16, .int x_keyCount, .int x_bucketCount, .int x_seed]))] x [(a0, .inr (0, [.ref a1, .ref a8, .ref a10, .ref a12, .ref a14, .ref a16, .int x_keyCount, .int x_bucketCount, .int x_seed]))] := by
  refine kk_ofI (cc := cX0_bucketOf) (maxL := 2) (by decide) rfl (Nat.le_of_ble_eq_true rfl) ?_
  intro p e s m below meth c A Q ls H locs hx hb hml hown hts hE hw hl hret
  have F : kk_at p m c cX0_bucketOf 2 s _ wsX0_bucketOf RX0 G cI cJ ad A := ⟨⟨hx, hb, hml, hown, hts⟩, hE⟩
  have hl : lv_has ls 2 [(0, .ref a0), (1, .int i1)] := hl
  unfold F_X0_bucketOf at hF0
  refine kk_gets 0 (by decide) F hw m_X0_bucketOf_Cond_fieldLink_RX0_146_PerfectPew_Hash_BUCKET_LPerfectPew_Hash_ dX0_bucketOf_0 ?_
  refine lv_iload_n hx hb dX0_bucketOf_3 rfl (lv_at hl 1 rfl) ?_
  refine lv_aload_n hx hb dX0_bucketOf_4 rfl (lv_at hl 0 rfl) ?_
  refine kk_get (T := TX0) F hw ui_X0_bucketOf_X0 0 rfl rfl 8 (by decide) m_X0_bucketOf_Cond_fieldLink_RX0_57_PerfectPew_Displacer_seed_I_ rfl dX0_bucketOf_5 ?_
  obtain ⟨v1, ev1, hF0⟩ := kk_bind hF0
  refine kk_callH 0 0 hw (kk_runH (As := [.int i1, .int x_seed]) (rest := []) F hw hl.1 (by decide) (c_X3_of l G cI cJ ad 0 i1 x_seed N v1 ev1 (by decide) H.size) gX0_bucketOf_X3_of_n87 rfl nl_32 m_X0_bucketOf_Cond_initialized_yX3_of_cls m_X0_bucketOf_Cond_instanceMethod_yX3_of m_X0_bucketOf_Cond_selects_RX3_yX3_of_yX3_of md_X3_of ⟨Nat.le_of_ble_eq_true rfl, Nat.le_of_ble_eq_true rfl⟩ ⟨Nat.le_of_ble_eq_true rfl, Nat.le_of_ble_eq_true rfl⟩ rfl (Nat.le_of_ble_eq_true rfl) dX0_bucketOf_8) ⟨rfl, rfl⟩ (fun H locs hw => ?_)
  refine lv_aload_n hx hb dX0_bucketOf_11 rfl (lv_at hl 0 rfl) ?_
  refine kk_get (T := TX0) F hw ui_X0_bucketOf_X0 0 rfl rfl 7 (by decide) m_X0_bucketOf_Cond_fieldLink_RX0_54_PerfectPew_Displacer_bucketCount_I_ rfl dX0_bucketOf_12 ?_
  obtain ⟨v2, ev2, hF0⟩ := kk_bind hF0
  refine kk_callI 0 0 hw (kk_runSN (As := [.int v1, .int x_bucketCount]) (rest := []) F hw hl.1 (c_X7_remainder l G cI cJ ad v1 x_bucketCount N v2 ev2 H.size) gX0_bucketOf_X7_remainder_n143 rfl nl_33 m_X0_bucketOf_Cond_initialized_yX7_remainder_cls m_X0_bucketOf_Cond_static_yX7_remainder md_X7_remainder ⟨Nat.le_of_ble_eq_true rfl, Nat.le_of_ble_eq_true rfl⟩ ⟨Nat.le_of_ble_eq_true rfl, Nat.le_of_ble_eq_true rfl⟩ rfl (Nat.le_of_ble_eq_true rfl) dX0_bucketOf_15) ⟨rfl, rfl⟩ [] (by decide) rfl rfl (fun H locs hw => ?_)
  have hy := Option.some.inj hF0
  subst hy
  exact hret dX0_bucketOf_18 (by decide) (by decide) hw
theorem ui_X0_stepOf_X0 : ∀ w ∈ u_ws RX0 TX0 9, w ∈ wsX0_stepOf := by decide +kernel
theorem m_X0_stepOf_Cond_fieldLink_RX0_47_PerfectPew_Displacer_keyCount_I_ : Cond.fieldLink RX0 47 "PerfectPew$Displacer" "keyCount" "I" ∈ wsX0_stepOf := by decide +kernel
theorem m_X0_stepOf_Cond_fieldLink_RX0_149_PerfectPew_Hash_STEP_LPerfectPew_Hash_ : Cond.fieldLink RX0 149 "PerfectPew$Hash" "STEP" "LPerfectPew$Hash;" ∈ wsX0_stepOf := by decide +kernel
theorem m_X0_stepOf_Cond_fieldLink_RX0_57_PerfectPew_Displacer_seed_I_ : Cond.fieldLink RX0 57 "PerfectPew$Displacer" "seed" "I" ∈ wsX0_stepOf := by decide +kernel
theorem m_X0_stepOf_Cond_initialized_yX7_remainder_cls : Cond.initialized yX7_remainder.cls ∈ wsX0_stepOf := by decide +kernel
theorem m_X0_stepOf_Cond_static_yX7_remainder : Cond.static yX7_remainder ∈ wsX0_stepOf := by decide +kernel
theorem m_X0_stepOf_Cond_initialized_yX3_of_cls : Cond.initialized yX3_of.cls ∈ wsX0_stepOf := by decide +kernel
theorem m_X0_stepOf_Cond_instanceMethod_yX3_of : Cond.instanceMethod yX3_of ∈ wsX0_stepOf := by decide +kernel
theorem m_X0_stepOf_Cond_selects_RX3_yX3_of_yX3_of : Cond.selects RX3 yX3_of yX3_of ∈ wsX0_stepOf := by decide +kernel
set_option maxRecDepth 100000 in
set_option maxHeartbeats 4000000 in
theorem c_X0_stepOf (l : Launch) (G : va_G) (cI cJ : ClassId) (ad : Nat → Nat) (a0 a1 a8 a10 a12 a14 a16 : Nat) (x_keyCount : Int32) (x_bucketCount : Int32) (x_seed : Int32) (i1 : Int32) (N : Nat) (x : Int32) (hF0 : F_X0_stepOf N x_keyCount x_seed i1 = some x) : kk_I l yX0_stepOf wsX0_stepOf 1 0 0 22 [.ref a0, .int i1] G cI cJ ad [(a0, .inr (0, [.ref a1, .ref a8, .ref a10, .ref a12, .ref a14, .ref a16, .int x_keyCount, .int x_bucketCount, .int x_seed]))] x [(a0, .inr (0, [.ref a1, .ref a8, .ref a10, .ref a12, .ref a14, .ref a16, .int x_keyCount, .int x_bucketCount, .int x_seed]))] := by
  refine kk_ofI (cc := cX0_stepOf) (maxL := 2) (by decide) rfl (Nat.le_of_ble_eq_true rfl) ?_
  intro p e s m below meth c A Q ls H locs hx hb hml hown hts hE hw hl hret
  have F : kk_at p m c cX0_stepOf 2 s _ wsX0_stepOf RX0 G cI cJ ad A := ⟨⟨hx, hb, hml, hown, hts⟩, hE⟩
  have hl : lv_has ls 2 [(0, .ref a0), (1, .int i1)] := hl
  unfold F_X0_stepOf at hF0
  have hJ1 : ∀ (s0_1 : Int32), J_X0_stepOf_34 N s0_1 = some x → ∀ (H : Heap) (locs : List Loc) (ls : Array Slot), kk_wd G A s.heap [(a0, .inr (0, [.ref a1, .ref a8, .ref a10, .ref a12, .ref a14, .ref a16, .int x_keyCount, .int x_bucketCount, .int x_seed]))] H locs → lv_has ls 2 [] → W p l e (kk_rm 1 0 0 22) s m ([.ref a0, .int i1] : List Value).toArray below meth c H locs 0 0 Q (F0 m 34 ls [.int s0_1]) := by
    intro s0_1 hF0 H locs ls hw hl
    unfold J_X0_stepOf_34 at hF0
    have hy := Option.some.inj hF0
    subst hy
    exact hret dX0_stepOf_34 (by decide) (by decide) hw
  refine lv_aload_n hx hb dX0_stepOf_0 rfl (lv_at hl 0 rfl) ?_
  refine kk_get (T := TX0) F hw ui_X0_stepOf_X0 0 rfl rfl 6 (by decide) m_X0_stepOf_Cond_fieldLink_RX0_47_PerfectPew_Displacer_keyCount_I_ rfl dX0_stepOf_1 ?_
  refine lv_iconst (v := 1) hx hb dX0_stepOf_4 (by decide) ?_
  refine lv_icmp_le (tgt := 33) hx hb dX0_stepOf_5 (by decide) (fun c2 => ?_) (fun c2 => ?_)
  · have hF0 := (if_pos c2).symm.trans hF0
    refine lv_iconst (v := 1) hx hb dX0_stepOf_33 (by decide) ?_
    exact hJ1 1 hF0 _ _ _ hw (lv_sub hl [] rfl)
  · have hF0 := (if_neg c2).symm.trans hF0
    refine lv_iconst (v := 1) hx hb dX0_stepOf_8 (by decide) ?_
    refine kk_gets 2 (by decide) F hw m_X0_stepOf_Cond_fieldLink_RX0_149_PerfectPew_Hash_STEP_LPerfectPew_Hash_ dX0_stepOf_9 ?_
    refine lv_iload_n hx hb dX0_stepOf_12 rfl (lv_at hl 1 rfl) ?_
    refine lv_aload_n hx hb dX0_stepOf_13 rfl (lv_at hl 0 rfl) ?_
    refine kk_get (T := TX0) F hw ui_X0_stepOf_X0 0 rfl rfl 8 (by decide) m_X0_stepOf_Cond_fieldLink_RX0_57_PerfectPew_Displacer_seed_I_ rfl dX0_stepOf_14 ?_
    obtain ⟨v3, ev3, hF0⟩ := kk_bind hF0
    refine kk_callH 0 0 hw (kk_runH (As := [.int i1, .int x_seed]) (rest := [.int 1]) F hw hl.1 (by decide) (c_X3_of l G cI cJ ad 2 i1 x_seed N v3 ev3 (by decide) H.size) gX0_stepOf_X3_of_n87 rfl nl_32 m_X0_stepOf_Cond_initialized_yX3_of_cls m_X0_stepOf_Cond_instanceMethod_yX3_of m_X0_stepOf_Cond_selects_RX3_yX3_of_yX3_of md_X3_of ⟨Nat.le_of_ble_eq_true rfl, Nat.le_of_ble_eq_true rfl⟩ ⟨Nat.le_of_ble_eq_true rfl, Nat.le_of_ble_eq_true rfl⟩ rfl (Nat.le_of_ble_eq_true rfl) dX0_stepOf_17) ⟨rfl, rfl⟩ (fun H locs hw => ?_)
    refine lv_aload_n hx hb dX0_stepOf_20 rfl (lv_at hl 0 rfl) ?_
    refine kk_get (T := TX0) F hw ui_X0_stepOf_X0 0 rfl rfl 6 (by decide) m_X0_stepOf_Cond_fieldLink_RX0_47_PerfectPew_Displacer_keyCount_I_ rfl dX0_stepOf_21 ?_
    refine lv_iconst (v := 1) hx hb dX0_stepOf_24 (by decide) ?_
    refine lv_isub hx hb dX0_stepOf_25 ?_
    obtain ⟨v4, ev4, hF0⟩ := kk_bind hF0
    refine kk_callI 0 0 hw (kk_runSN (As := [.int v3, .int (x_keyCount - 1)]) (rest := [.int 1]) F hw hl.1 (c_X7_remainder l G cI cJ ad v3 (x_keyCount - 1) N v4 ev4 H.size) gX0_stepOf_X7_remainder_n143 rfl nl_33 m_X0_stepOf_Cond_initialized_yX7_remainder_cls m_X0_stepOf_Cond_static_yX7_remainder md_X7_remainder ⟨Nat.le_of_ble_eq_true rfl, Nat.le_of_ble_eq_true rfl⟩ ⟨Nat.le_of_ble_eq_true rfl, Nat.le_of_ble_eq_true rfl⟩ rfl (Nat.le_of_ble_eq_true rfl) dX0_stepOf_26) ⟨rfl, rfl⟩ [] (by decide) rfl rfl (fun H locs hw => ?_)
    refine lv_iadd hx hb dX0_stepOf_29 ?_
    refine lv_goto (tgt := 34) hx hb dX0_stepOf_30 (by decide) ?_
    exact hJ1 (1 + v4) hF0 _ _ _ hw (lv_sub hl [] rfl)
theorem ui_X0_hashKeys_X0 : ∀ w ∈ u_ws RX0 TX0 9, w ∈ wsX0_hashKeys := by decide +kernel
theorem m_X0_hashKeys_Cond_fieldLink_RX0_14_PerfectPew_Displacer_ranksByBucket_LPerfectPew_Groups_ : Cond.fieldLink RX0 14 "PerfectPew$Displacer" "ranksByBucket" "LPerfectPew$Groups;" ∈ wsX0_hashKeys := by decide +kernel
theorem m_X0_hashKeys_Cond_initialized_yX2_arrange_cls : Cond.initialized yX2_arrange.cls ∈ wsX0_hashKeys := by decide +kernel
theorem m_X0_hashKeys_Cond_instanceMethod_yX2_arrange : Cond.instanceMethod yX2_arrange ∈ wsX0_hashKeys := by decide +kernel
theorem m_X0_hashKeys_Cond_selects_RX2_yX2_arrange_yX2_arrange : Cond.selects RX2 yX2_arrange yX2_arrange ∈ wsX0_hashKeys := by decide +kernel
theorem m_X0_hashKeys_Cond_fieldLink_RX0_47_PerfectPew_Displacer_keyCount_I_ : Cond.fieldLink RX0 47 "PerfectPew$Displacer" "keyCount" "I" ∈ wsX0_hashKeys := by decide +kernel
theorem m_X0_hashKeys_Cond_fieldLink_RX0_54_PerfectPew_Displacer_bucketCount_I_ : Cond.fieldLink RX0 54 "PerfectPew$Displacer" "bucketCount" "I" ∈ wsX0_hashKeys := by decide +kernel
theorem m_X0_hashKeys_Cond_fieldLink_RX0_25_PerfectPew_Displacer_starts_LPerfectPew_Row_ : Cond.fieldLink RX0 25 "PerfectPew$Displacer" "starts" "LPerfectPew$Row;" ∈ wsX0_hashKeys := by decide +kernel
theorem m_X0_hashKeys_Cond_fieldLink_RX0_81_PerfectPew_Hash_START_LPerfectPew_Hash_ : Cond.fieldLink RX0 81 "PerfectPew$Hash" "START" "LPerfectPew$Hash;" ∈ wsX0_hashKeys := by decide +kernel
theorem m_X0_hashKeys_Cond_fieldLink_RX0_57_PerfectPew_Displacer_seed_I_ : Cond.fieldLink RX0 57 "PerfectPew$Displacer" "seed" "I" ∈ wsX0_hashKeys := by decide +kernel
theorem m_X0_hashKeys_Cond_fieldLink_RX0_29_PerfectPew_Displacer_steps_LPerfectPew_Row_ : Cond.fieldLink RX0 29 "PerfectPew$Displacer" "steps" "LPerfectPew$Row;" ∈ wsX0_hashKeys := by decide +kernel
theorem m_X0_hashKeys_Cond_initialized_yX6_set_cls : Cond.initialized yX6_set.cls ∈ wsX0_hashKeys := by decide +kernel
theorem m_X0_hashKeys_Cond_instanceMethod_yX6_set : Cond.instanceMethod yX6_set ∈ wsX0_hashKeys := by decide +kernel
theorem m_X0_hashKeys_Cond_selects_RX6_yX6_set_yX6_set : Cond.selects RX6 yX6_set yX6_set ∈ wsX0_hashKeys := by decide +kernel
theorem m_X0_hashKeys_Cond_initialized_yX3_of_cls : Cond.initialized yX3_of.cls ∈ wsX0_hashKeys := by decide +kernel
theorem m_X0_hashKeys_Cond_instanceMethod_yX3_of : Cond.instanceMethod yX3_of ∈ wsX0_hashKeys := by decide +kernel
theorem m_X0_hashKeys_Cond_selects_RX3_yX3_of_yX3_of : Cond.selects RX3 yX3_of yX3_of ∈ wsX0_hashKeys := by decide +kernel
theorem m_X0_hashKeys_Cond_initialized_yX2_assign_cls : Cond.initialized yX2_assign.cls ∈ wsX0_hashKeys := by decide +kernel
theorem m_X0_hashKeys_Cond_instanceMethod_yX2_assign : Cond.instanceMethod yX2_assign ∈ wsX0_hashKeys := by decide +kernel
theorem m_X0_hashKeys_Cond_selects_RX2_yX2_assign_yX2_assign : Cond.selects RX2 yX2_assign yX2_assign ∈ wsX0_hashKeys := by decide +kernel
theorem m_X0_hashKeys_Cond_initialized_yX4_at_cls : Cond.initialized yX4_at.cls ∈ wsX0_hashKeys := by decide +kernel
theorem m_X0_hashKeys_Cond_instanceMethod_yX4_at : Cond.instanceMethod yX4_at ∈ wsX0_hashKeys := by decide +kernel
theorem m_X0_hashKeys_Cond_selects_RX4_yX4_at_yX4_at : Cond.selects RX4 yX4_at yX4_at ∈ wsX0_hashKeys := by decide +kernel
theorem m_X0_hashKeys_Cond_initialized_yX2_restart_cls : Cond.initialized yX2_restart.cls ∈ wsX0_hashKeys := by decide +kernel
theorem m_X0_hashKeys_Cond_instanceMethod_yX2_restart : Cond.instanceMethod yX2_restart ∈ wsX0_hashKeys := by decide +kernel
theorem m_X0_hashKeys_Cond_selects_RX2_yX2_restart_yX2_restart : Cond.selects RX2 yX2_restart yX2_restart ∈ wsX0_hashKeys := by decide +kernel
set_option maxRecDepth 100000 in
set_option maxHeartbeats 4000000 in
theorem c_X0_hashKeys (l : Launch) (G : va_G) (cI cJ : ClassId) (ad : Nat → Nat) (a0 a1 a2 a3 a4 a5 a6 a7 a8 a9 a10 a11 a12 a14 a16 b0 b1 b2 : Nat) (x_keyCount : Int32) (x_bucketCount : Int32) (x_seed : Int32) (x_ranksByBucket_thingCount : Int32) (x_ranksByBucket_groupCount : Int32) (f_ranksByBucket_groups : Nat → Int32) (f_ranksByBucket_begins : Nat → Int32) (f_ranksByBucket_members : Nat → Int32) (f_starts : Nat → Int32) (f_steps : Nat → Int32) (q_x_size : Int32) (q_f_places : Nat → Int32) (N : Nat) (x : (Int32 × Int32 × (Nat → Int32) × (Nat → Int32) × (Nat → Int32) × (Nat → Int32) × (Nat → Int32))) (hF0 : F_X0_hashKeys N x_keyCount x_bucketCount x_seed x_ranksByBucket_thingCount x_ranksByBucket_groupCount f_ranksByBucket_groups f_ranksByBucket_begins f_ranksByBucket_members f_starts f_steps q_f_places = some x) : kk_V l yX0_hashKeys wsX0_hashKeys 3 0 0 66 [.ref a0, .ref b0] G cI cJ ad [(a0, .inr (0, [.ref a1, .ref a8, .ref a10, .ref a12, .ref a14, .ref a16, .int x_keyCount, .int x_bucketCount, .int x_seed])), (a1, .inr (2, [.ref a2, .ref a4, .ref a6, .int x_ranksByBucket_thingCount, .int x_ranksByBucket_groupCount])), (a2, .inr (6, [.ref a3])), (a3, .inl (cI, 120, .inl f_ranksByBucket_groups)), (a4, .inr (6, [.ref a5])), (a5, .inl (cI, 121, .inl f_ranksByBucket_begins)), (a6, .inr (6, [.ref a7])), (a7, .inl (cI, 120, .inl f_ranksByBucket_members)), (a8, .inr (6, [.ref a9])), (a9, .inl (cI, 120, .inl f_starts)), (a10, .inr (6, [.ref a11])), (a11, .inl (cI, 120, .inl f_steps)), (b0, .inr (4, [.ref b1, .int q_x_size])), (b1, .inr (6, [.ref b2])), (b2, .inl (cI, 120, .inl q_f_places))] [(a0, .inr (0, [.ref a1, .ref a8, .ref a10, .ref a12, .ref a14, .ref a16, .int x_keyCount, .int x_bucketCount, .int x_seed])), (a1, .inr (2, [.ref a2, .ref a4, .ref a6, .int x.1, .int x.2.1])), (a2, .inr (6, [.ref a3])), (a3, .inl (cI, 120, .inl x.2.2.1)), (a4, .inr (6, [.ref a5])), (a5, .inl (cI, 121, .inl x.2.2.2.1)), (a6, .inr (6, [.ref a7])), (a7, .inl (cI, 120, .inl x.2.2.2.2.1)), (a8, .inr (6, [.ref a9])), (a9, .inl (cI, 120, .inl x.2.2.2.2.2.1)), (a10, .inr (6, [.ref a11])), (a11, .inl (cI, 120, .inl x.2.2.2.2.2.2)), (b0, .inr (4, [.ref b1, .int q_x_size])), (b1, .inr (6, [.ref b2])), (b2, .inl (cI, 120, .inl q_f_places))] := by
  refine kk_ofV (cc := cX0_hashKeys) (maxL := 4) (by decide) rfl (Nat.le_of_ble_eq_true rfl) ?_
  intro p e s m below meth c A Q ls H locs hx hb hml hown hts hE hw hl hret
  have F : kk_at p m c cX0_hashKeys 4 s _ wsX0_hashKeys RX0 G cI cJ ad A := ⟨⟨hx, hb, hml, hown, hts⟩, hE⟩
  have hl : lv_has ls 4 [(0, .ref a0), (1, .ref b0)] := hl
  unfold F_X0_hashKeys at hF0
  have hJ1 : ∀ (x_ranksByBucket_thingCount_1 : Int32) (x_ranksByBucket_groupCount_1 : Int32) (f_ranksByBucket_groups_1 : Nat → Int32) (f_ranksByBucket_begins_1 : Nat → Int32) (f_ranksByBucket_members_1 : Nat → Int32) (f_starts_1 : Nat → Int32) (f_steps_1 : Nat → Int32), J_X0_hashKeys_82 N x_ranksByBucket_thingCount_1 x_ranksByBucket_groupCount_1 f_ranksByBucket_groups_1 f_ranksByBucket_begins_1 f_ranksByBucket_members_1 f_starts_1 f_steps_1 = some x → ∀ (H : Heap) (locs : List Loc) (ls : Array Slot), kk_wd G A s.heap [(a0, .inr (0, [.ref a1, .ref a8, .ref a10, .ref a12, .ref a14, .ref a16, .int x_keyCount, .int x_bucketCount, .int x_seed])), (a1, .inr (2, [.ref a2, .ref a4, .ref a6, .int x_ranksByBucket_thingCount_1, .int x_ranksByBucket_groupCount_1])), (a2, .inr (6, [.ref a3])), (a3, .inl (cI, 120, .inl f_ranksByBucket_groups_1)), (a4, .inr (6, [.ref a5])), (a5, .inl (cI, 121, .inl f_ranksByBucket_begins_1)), (a6, .inr (6, [.ref a7])), (a7, .inl (cI, 120, .inl f_ranksByBucket_members_1)), (a8, .inr (6, [.ref a9])), (a9, .inl (cI, 120, .inl f_starts_1)), (a10, .inr (6, [.ref a11])), (a11, .inl (cI, 120, .inl f_steps_1)), (b0, .inr (4, [.ref b1, .int q_x_size])), (b1, .inr (6, [.ref b2])), (b2, .inl (cI, 120, .inl q_f_places))] H locs → lv_has ls 4 [(0, .ref a0)] → W p l e (kk_rm 3 0 0 66) s m ([.ref a0, .ref b0] : List Value).toArray below meth c H locs 0 0 Q (F0 m 82 ls []) := by
    intro x_ranksByBucket_thingCount_1 x_ranksByBucket_groupCount_1 f_ranksByBucket_groups_1 f_ranksByBucket_begins_1 f_ranksByBucket_members_1 f_starts_1 f_steps_1 hF0 H locs ls hw hl
    unfold J_X0_hashKeys_82 at hF0
    refine lv_aload_n hx hb dX0_hashKeys_82 rfl (lv_at hl 0 rfl) ?_
    refine kk_get (T := TX0) F hw ui_X0_hashKeys_X0 0 rfl rfl 0 (by decide) m_X0_hashKeys_Cond_fieldLink_RX0_14_PerfectPew_Displacer_ranksByBucket_LPerfectPew_Groups_ rfl dX0_hashKeys_83 ?_
    obtain ⟨v2, ev2, hF0⟩ := kk_bind hF0
    refine kk_callV 0 0 hw (kk_runN (As := []) (rest := []) F hw hl.1 (c_X2_arrange l G cI cJ ad a1 a2 a3 a4 a5 a6 a7 x_ranksByBucket_thingCount_1 x_ranksByBucket_groupCount_1 120 f_ranksByBucket_groups_1 121 f_ranksByBucket_begins_1 120 f_ranksByBucket_members_1 N v2 ev2 H.size) gX0_hashKeys_X2_arrange_n96 rfl nl_38 m_X0_hashKeys_Cond_initialized_yX2_arrange_cls m_X0_hashKeys_Cond_instanceMethod_yX2_arrange m_X0_hashKeys_Cond_selects_RX2_yX2_arrange_yX2_arrange md_X2_arrange ⟨Nat.le_of_ble_eq_true rfl, Nat.le_of_ble_eq_true rfl⟩ ⟨Nat.le_of_ble_eq_true rfl, Nat.le_of_ble_eq_true rfl⟩ 1 2 rfl rfl rfl rfl (Nat.le_of_ble_eq_true rfl) dX0_hashKeys_86) ⟨rfl, rfl⟩ [1, 2, 3, 4, 5, 6, 7] (by decide) rfl rfl (fun H locs hw => ?_)
    have hw : kk_wd G A s.heap [(a0, .inr (0, [.ref a1, .ref a8, .ref a10, .ref a12, .ref a14, .ref a16, .int x_keyCount, .int x_bucketCount, .int x_seed])), (a1, .inr (2, [.ref a2, .ref a4, .ref a6, .int x_ranksByBucket_thingCount_1, .int x_ranksByBucket_groupCount_1])), (a2, .inr (6, [.ref a3])), (a3, .inl (cI, 120, .inl f_ranksByBucket_groups_1)), (a4, .inr (6, [.ref a5])), (a5, .inl (cI, 121, .inl v2.1)), (a6, .inr (6, [.ref a7])), (a7, .inl (cI, 120, .inl v2.2)), (a8, .inr (6, [.ref a9])), (a9, .inl (cI, 120, .inl f_starts_1)), (a10, .inr (6, [.ref a11])), (a11, .inl (cI, 120, .inl f_steps_1)), (b0, .inr (4, [.ref b1, .int q_x_size])), (b1, .inr (6, [.ref b2])), (b2, .inl (cI, 120, .inl q_f_places))] H locs := hw
    have hy := Option.some.inj hF0
    subst hy
    exact hret dX0_hashKeys_89 (by decide) (by decide) hw
  refine lv_aload_n hx hb dX0_hashKeys_0 rfl (lv_at hl 0 rfl) ?_
  refine kk_get (T := TX0) F hw ui_X0_hashKeys_X0 0 rfl rfl 0 (by decide) m_X0_hashKeys_Cond_fieldLink_RX0_14_PerfectPew_Displacer_ranksByBucket_LPerfectPew_Groups_ rfl dX0_hashKeys_1 ?_
  refine lv_aload_n hx hb dX0_hashKeys_4 rfl (lv_at hl 0 rfl) ?_
  refine kk_get (T := TX0) F hw ui_X0_hashKeys_X0 0 rfl rfl 6 (by decide) m_X0_hashKeys_Cond_fieldLink_RX0_47_PerfectPew_Displacer_keyCount_I_ rfl dX0_hashKeys_5 ?_
  refine lv_aload_n hx hb dX0_hashKeys_8 rfl (lv_at hl 0 rfl) ?_
  refine kk_get (T := TX0) F hw ui_X0_hashKeys_X0 0 rfl rfl 7 (by decide) m_X0_hashKeys_Cond_fieldLink_RX0_54_PerfectPew_Displacer_bucketCount_I_ rfl dX0_hashKeys_9 ?_
  obtain ⟨v3, ev3, hF0⟩ := kk_bind hF0
  refine kk_callV 0 0 hw (kk_runN (As := [.int x_keyCount, .int x_bucketCount]) (rest := []) F hw hl.1 (c_X2_restart l G cI cJ ad a1 a2 a4 a5 a6 x_ranksByBucket_thingCount x_ranksByBucket_groupCount 121 f_ranksByBucket_begins x_keyCount x_bucketCount N v3 ev3 H.size) gX0_hashKeys_X2_restart_n68 rfl nl_29 m_X0_hashKeys_Cond_initialized_yX2_restart_cls m_X0_hashKeys_Cond_instanceMethod_yX2_restart m_X0_hashKeys_Cond_selects_RX2_yX2_restart_yX2_restart md_X2_restart ⟨Nat.le_of_ble_eq_true rfl, Nat.le_of_ble_eq_true rfl⟩ ⟨Nat.le_of_ble_eq_true rfl, Nat.le_of_ble_eq_true rfl⟩ 1 2 rfl rfl rfl rfl (Nat.le_of_ble_eq_true rfl) dX0_hashKeys_12) ⟨rfl, rfl⟩ [1, 4, 5] (by decide) rfl rfl (fun H locs hw => ?_)
  have hw : kk_wd G A s.heap [(a0, .inr (0, [.ref a1, .ref a8, .ref a10, .ref a12, .ref a14, .ref a16, .int x_keyCount, .int x_bucketCount, .int x_seed])), (a1, .inr (2, [.ref a2, .ref a4, .ref a6, .int v3.1, .int v3.2.1])), (a2, .inr (6, [.ref a3])), (a3, .inl (cI, 120, .inl f_ranksByBucket_groups)), (a4, .inr (6, [.ref a5])), (a5, .inl (cI, 121, .inl v3.2.2)), (a6, .inr (6, [.ref a7])), (a7, .inl (cI, 120, .inl f_ranksByBucket_members)), (a8, .inr (6, [.ref a9])), (a9, .inl (cI, 120, .inl f_starts)), (a10, .inr (6, [.ref a11])), (a11, .inl (cI, 120, .inl f_steps)), (b0, .inr (4, [.ref b1, .int q_x_size])), (b1, .inr (6, [.ref b2])), (b2, .inl (cI, 120, .inl q_f_places))] H locs := hw
  refine lv_iconst (v := 0) hx hb dX0_hashKeys_15 (by decide) ?_
  refine lv_istore_n (lv' := [(2, .int 0), (0, .ref a0), (1, .ref b0)]) hx hb dX0_hashKeys_16 rfl hl (by decide) rfl (fun ls hl => ?_)
  obtain ⟨z4, hz5, hF0⟩ := kk_bind hF0
  have hL5 : ∀ (n5 : Nat) (f_ranksByBucket_groups_5 : Nat → Int32) (f_ranksByBucket_begins_5 : Nat → Int32) (f_starts_5 : Nat → Int32) (f_steps_5 : Nat → Int32) (i2_5 : Int32), kk_iter (fun (σ : ((Nat → Int32) × (Nat → Int32) × (Nat → Int32) × (Nat → Int32) × Int32)) => L_X0_hashKeys_17 N x_keyCount x_bucketCount x_seed q_f_places σ.1 σ.2.1 σ.2.2.1 σ.2.2.2.1 σ.2.2.2.2) n5 (f_ranksByBucket_groups_5, f_ranksByBucket_begins_5, f_starts_5, f_steps_5, i2_5) = some z4 → ∀ (H : Heap) (locs : List Loc) (ls : Array Slot), kk_wd G A s.heap [(a0, .inr (0, [.ref a1, .ref a8, .ref a10, .ref a12, .ref a14, .ref a16, .int x_keyCount, .int x_bucketCount, .int x_seed])), (a1, .inr (2, [.ref a2, .ref a4, .ref a6, .int v3.1, .int v3.2.1])), (a2, .inr (6, [.ref a3])), (a3, .inl (cI, 120, .inl f_ranksByBucket_groups_5)), (a4, .inr (6, [.ref a5])), (a5, .inl (cI, 121, .inl f_ranksByBucket_begins_5)), (a6, .inr (6, [.ref a7])), (a7, .inl (cI, 120, .inl f_ranksByBucket_members)), (a8, .inr (6, [.ref a9])), (a9, .inl (cI, 120, .inl f_starts_5)), (a10, .inr (6, [.ref a11])), (a11, .inl (cI, 120, .inl f_steps_5)), (b0, .inr (4, [.ref b1, .int q_x_size])), (b1, .inr (6, [.ref b2])), (b2, .inl (cI, 120, .inl q_f_places))] H locs → lv_has ls 4 [(0, .ref a0), (1, .ref b0), (2, .int i2_5)] → W p l e (kk_rm 3 0 0 66) s m ([.ref a0, .ref b0] : List Value).toArray below meth c H locs 0 0 Q (F0 m 17 ls []) := by
    intro n5
    induction n5 with
    | zero => intro f_ranksByBucket_groups_5 f_ranksByBucket_begins_5 f_starts_5 f_steps_5 i2_5 h; exact kk_iter0 h
    | succ n5 ih5 =>
      intro f_ranksByBucket_groups_5 f_ranksByBucket_begins_5 f_starts_5 f_steps_5 i2_5 hq H locs ls hw hl
      obtain ⟨y5, hF1, hI1⟩ := kk_iterS hq
      have hF1 : L_X0_hashKeys_17 N x_keyCount x_bucketCount x_seed q_f_places f_ranksByBucket_groups_5 f_ranksByBucket_begins_5 f_starts_5 f_steps_5 i2_5 = some y5 := hF1
      unfold L_X0_hashKeys_17 at hF1
      refine lv_iload_n hx hb dX0_hashKeys_17 rfl (lv_at hl 2 rfl) ?_
      refine lv_aload_n hx hb dX0_hashKeys_18 rfl (lv_at hl 0 rfl) ?_
      refine kk_get (T := TX0) F hw ui_X0_hashKeys_X0 0 rfl rfl 6 (by decide) m_X0_hashKeys_Cond_fieldLink_RX0_47_PerfectPew_Displacer_keyCount_I_ rfl dX0_hashKeys_19 ?_
      refine lv_icmp_ge (tgt := 82) hx hb dX0_hashKeys_22 (by decide) (fun c6 => ?_) (fun c6 => ?_)
      · have hF1 := (if_pos c6).symm.trans hF1
        have hy := Option.some.inj hF1
        subst hy
        have hz := Option.some.inj hI1
        subst hz
        exact hJ1 v3.1 v3.2.1 f_ranksByBucket_groups_5 f_ranksByBucket_begins_5 f_ranksByBucket_members f_starts_5 f_steps_5 hF0 _ _ _ hw (lv_sub hl [0] rfl)
      · have hF1 := (if_neg c6).symm.trans hF1
        refine lv_aload_n hx hb dX0_hashKeys_25 rfl (lv_at hl 1 rfl) ?_
        refine lv_iload_n hx hb dX0_hashKeys_26 rfl (lv_at hl 2 rfl) ?_
        obtain ⟨v7, ev7, hF1⟩ := kk_bind hF1
        refine kk_callI 0 0 hw (kk_runN (As := [.int i2_5]) (rest := []) F hw hl.1 (c_X4_at l G cI cJ ad b0 b1 b2 q_x_size q_f_places i2_5 N v7 ev7 H.size) gX0_hashKeys_X4_at_n71 rfl nl_31 m_X0_hashKeys_Cond_initialized_yX4_at_cls m_X0_hashKeys_Cond_instanceMethod_yX4_at m_X0_hashKeys_Cond_selects_RX4_yX4_at_yX4_at md_X4_at ⟨Nat.le_of_ble_eq_true rfl, Nat.le_of_ble_eq_true rfl⟩ ⟨Nat.le_of_ble_eq_true rfl, Nat.le_of_ble_eq_true rfl⟩ 12 4 rfl rfl rfl rfl (Nat.le_of_ble_eq_true rfl) dX0_hashKeys_27) ⟨rfl, rfl⟩ [12, 13, 14] (by decide) rfl rfl (fun H locs hw => ?_)
        have hw : kk_wd G A s.heap [(a0, .inr (0, [.ref a1, .ref a8, .ref a10, .ref a12, .ref a14, .ref a16, .int x_keyCount, .int x_bucketCount, .int x_seed])), (a1, .inr (2, [.ref a2, .ref a4, .ref a6, .int v3.1, .int v3.2.1])), (a2, .inr (6, [.ref a3])), (a3, .inl (cI, 120, .inl f_ranksByBucket_groups_5)), (a4, .inr (6, [.ref a5])), (a5, .inl (cI, 121, .inl f_ranksByBucket_begins_5)), (a6, .inr (6, [.ref a7])), (a7, .inl (cI, 120, .inl f_ranksByBucket_members)), (a8, .inr (6, [.ref a9])), (a9, .inl (cI, 120, .inl f_starts_5)), (a10, .inr (6, [.ref a11])), (a11, .inl (cI, 120, .inl f_steps_5)), (b0, .inr (4, [.ref b1, .int q_x_size])), (b1, .inr (6, [.ref b2])), (b2, .inl (cI, 120, .inl q_f_places))] H locs := hw
        refine lv_istore_n (lv' := [(3, .int v7), (0, .ref a0), (1, .ref b0), (2, .int i2_5)]) hx hb dX0_hashKeys_30 rfl hl (by decide) rfl (fun ls hl => ?_)
        refine lv_aload_n hx hb dX0_hashKeys_31 rfl (lv_at hl 1 rfl) ?_
        refine kk_get (T := TX0) F hw ui_X0_hashKeys_X0 0 rfl rfl 0 (by decide) m_X0_hashKeys_Cond_fieldLink_RX0_14_PerfectPew_Displacer_ranksByBucket_LPerfectPew_Groups_ rfl dX0_hashKeys_32 ?_
        refine lv_iload_n hx hb dX0_hashKeys_35 rfl (lv_at hl 3 rfl) ?_
        refine lv_aload_n hx hb dX0_hashKeys_36 rfl (lv_at hl 1 rfl) ?_
        refine lv_iload_n hx hb dX0_hashKeys_37 rfl (lv_at hl 0 rfl) ?_
        obtain ⟨v8, ev8, hF1⟩ := kk_bind hF1
        refine kk_callI 0 0 hw (kk_runV (As := [.int v7]) (rest := [.int i2_5, .ref a1]) F hw hl.1 (c_X0_bucketOf l G cI cJ ad a0 a1 a8 a10 a12 a14 a16 x_keyCount x_bucketCount x_seed v7 N v8 ev8 H.size) gX0_hashKeys_X0_bucketOf rfl ⟨rfl, md_X0_bucketOf⟩ ⟨Nat.le_of_ble_eq_true rfl, Nat.le_of_ble_eq_true rfl⟩ ⟨Nat.le_of_ble_eq_true rfl, Nat.le_of_ble_eq_true rfl⟩ 0 0 rfl rfl rfl rfl (Nat.le_of_ble_eq_true rfl) dX0_hashKeys_38) ⟨rfl, rfl⟩ [0] (by decide) rfl rfl (fun H locs hw => ?_)
        have hw : kk_wd G A s.heap [(a0, .inr (0, [.ref a1, .ref a8, .ref a10, .ref a12, .ref a14, .ref a16, .int x_keyCount, .int x_bucketCount, .int x_seed])), (a1, .inr (2, [.ref a2, .ref a4, .ref a6, .int v3.1, .int v3.2.1])), (a2, .inr (6, [.ref a3])), (a3, .inl (cI, 120, .inl f_ranksByBucket_groups_5)), (a4, .inr (6, [.ref a5])), (a5, .inl (cI, 121, .inl f_ranksByBucket_begins_5)), (a6, .inr (6, [.ref a7])), (a7, .inl (cI, 120, .inl f_ranksByBucket_members)), (a8, .inr (6, [.ref a9])), (a9, .inl (cI, 120, .inl f_starts_5)), (a10, .inr (6, [.ref a11])), (a11, .inl (cI, 120, .inl f_steps_5)), (b0, .inr (4, [.ref b1, .int q_x_size])), (b1, .inr (6, [.ref b2])), (b2, .inl (cI, 120, .inl q_f_places))] H locs := hw
        obtain ⟨v9, ev9, hF1⟩ := kk_bind hF1
        refine kk_callV 0 0 hw (kk_runN (As := [.int i2_5, .int v8]) (rest := []) F hw hl.1 (c_X2_assign l G cI cJ ad a1 a2 a3 a4 a5 a6 v3.1 v3.2.1 120 f_ranksByBucket_groups_5 121 f_ranksByBucket_begins_5 i2_5 v8 N v9 ev9 H.size) gX0_hashKeys_X2_assign_n78 rfl nl_34 m_X0_hashKeys_Cond_initialized_yX2_assign_cls m_X0_hashKeys_Cond_instanceMethod_yX2_assign m_X0_hashKeys_Cond_selects_RX2_yX2_assign_yX2_assign md_X2_assign ⟨Nat.le_of_ble_eq_true rfl, Nat.le_of_ble_eq_true rfl⟩ ⟨Nat.le_of_ble_eq_true rfl, Nat.le_of_ble_eq_true rfl⟩ 1 2 rfl rfl rfl rfl (Nat.le_of_ble_eq_true rfl) dX0_hashKeys_41) ⟨rfl, rfl⟩ [1, 2, 3, 4, 5] (by decide) rfl rfl (fun H locs hw => ?_)
        have hw : kk_wd G A s.heap [(a0, .inr (0, [.ref a1, .ref a8, .ref a10, .ref a12, .ref a14, .ref a16, .int x_keyCount, .int x_bucketCount, .int x_seed])), (a1, .inr (2, [.ref a2, .ref a4, .ref a6, .int v3.1, .int v3.2.1])), (a2, .inr (6, [.ref a3])), (a3, .inl (cI, 120, .inl v9.1)), (a4, .inr (6, [.ref a5])), (a5, .inl (cI, 121, .inl v9.2)), (a6, .inr (6, [.ref a7])), (a7, .inl (cI, 120, .inl f_ranksByBucket_members)), (a8, .inr (6, [.ref a9])), (a9, .inl (cI, 120, .inl f_starts_5)), (a10, .inr (6, [.ref a11])), (a11, .inl (cI, 120, .inl f_steps_5)), (b0, .inr (4, [.ref b1, .int q_x_size])), (b1, .inr (6, [.ref b2])), (b2, .inl (cI, 120, .inl q_f_places))] H locs := hw
        refine lv_aload_n hx hb dX0_hashKeys_44 rfl (lv_at hl 1 rfl) ?_
        refine kk_get (T := TX0) F hw ui_X0_hashKeys_X0 0 rfl rfl 1 (by decide) m_X0_hashKeys_Cond_fieldLink_RX0_25_PerfectPew_Displacer_starts_LPerfectPew_Row_ rfl dX0_hashKeys_45 ?_
        refine lv_iload_n hx hb dX0_hashKeys_48 rfl (lv_at hl 3 rfl) ?_
        refine kk_gets 1 (by decide) F hw m_X0_hashKeys_Cond_fieldLink_RX0_81_PerfectPew_Hash_START_LPerfectPew_Hash_ dX0_hashKeys_49 ?_
        refine lv_iload_n hx hb dX0_hashKeys_52 rfl (lv_at hl 0 rfl) ?_
        refine lv_aload_n hx hb dX0_hashKeys_53 rfl (lv_at hl 1 rfl) ?_
        refine kk_get (T := TX0) F hw ui_X0_hashKeys_X0 0 rfl rfl 8 (by decide) m_X0_hashKeys_Cond_fieldLink_RX0_57_PerfectPew_Displacer_seed_I_ rfl dX0_hashKeys_54 ?_
        obtain ⟨v10, ev10, hF1⟩ := kk_bind hF1
        refine kk_callH 0 0 hw (kk_runH (As := [.int v7, .int x_seed]) (rest := [.int i2_5, .ref a8]) F hw hl.1 (by decide) (c_X3_of l G cI cJ ad 1 v7 x_seed N v10 ev10 (by decide) H.size) gX0_hashKeys_X3_of_n87 rfl nl_32 m_X0_hashKeys_Cond_initialized_yX3_of_cls m_X0_hashKeys_Cond_instanceMethod_yX3_of m_X0_hashKeys_Cond_selects_RX3_yX3_of_yX3_of md_X3_of ⟨Nat.le_of_ble_eq_true rfl, Nat.le_of_ble_eq_true rfl⟩ ⟨Nat.le_of_ble_eq_true rfl, Nat.le_of_ble_eq_true rfl⟩ rfl (Nat.le_of_ble_eq_true rfl) dX0_hashKeys_57) ⟨rfl, rfl⟩ (fun H locs hw => ?_)
        obtain ⟨v11, ev11, hF1⟩ := kk_bind hF1
        refine kk_callV 0 0 hw (kk_runN (As := [.int i2_5, .int v10]) (rest := []) F hw hl.1 (c_X6_set l G cI cJ ad a8 a9 120 f_starts_5 i2_5 v10 N v11 ev11 H.size) gX0_hashKeys_X6_set_n90 rfl nl_37 m_X0_hashKeys_Cond_initialized_yX6_set_cls m_X0_hashKeys_Cond_instanceMethod_yX6_set m_X0_hashKeys_Cond_selects_RX6_yX6_set_yX6_set md_X6_set ⟨Nat.le_of_ble_eq_true rfl, Nat.le_of_ble_eq_true rfl⟩ ⟨Nat.le_of_ble_eq_true rfl, Nat.le_of_ble_eq_true rfl⟩ 8 6 rfl rfl rfl rfl (Nat.le_of_ble_eq_true rfl) dX0_hashKeys_60) ⟨rfl, rfl⟩ [8, 9] (by decide) rfl rfl (fun H locs hw => ?_)
        have hw : kk_wd G A s.heap [(a0, .inr (0, [.ref a1, .ref a8, .ref a10, .ref a12, .ref a14, .ref a16, .int x_keyCount, .int x_bucketCount, .int x_seed])), (a1, .inr (2, [.ref a2, .ref a4, .ref a6, .int v3.1, .int v3.2.1])), (a2, .inr (6, [.ref a3])), (a3, .inl (cI, 120, .inl v9.1)), (a4, .inr (6, [.ref a5])), (a5, .inl (cI, 121, .inl v9.2)), (a6, .inr (6, [.ref a7])), (a7, .inl (cI, 120, .inl f_ranksByBucket_members)), (a8, .inr (6, [.ref a9])), (a9, .inl (cI, 120, .inl v11)), (a10, .inr (6, [.ref a11])), (a11, .inl (cI, 120, .inl f_steps_5)), (b0, .inr (4, [.ref b1, .int q_x_size])), (b1, .inr (6, [.ref b2])), (b2, .inl (cI, 120, .inl q_f_places))] H locs := hw
        refine lv_aload_n hx hb dX0_hashKeys_63 rfl (lv_at hl 1 rfl) ?_
        refine kk_get (T := TX0) F hw ui_X0_hashKeys_X0 0 rfl rfl 2 (by decide) m_X0_hashKeys_Cond_fieldLink_RX0_29_PerfectPew_Displacer_steps_LPerfectPew_Row_ rfl dX0_hashKeys_64 ?_
        refine lv_iload_n hx hb dX0_hashKeys_67 rfl (lv_at hl 3 rfl) ?_
        refine lv_aload_n hx hb dX0_hashKeys_68 rfl (lv_at hl 1 rfl) ?_
        refine lv_iload_n hx hb dX0_hashKeys_69 rfl (lv_at hl 0 rfl) ?_
        obtain ⟨v12, ev12, hF1⟩ := kk_bind hF1
        refine kk_callI 0 0 hw (kk_runV (As := [.int v7]) (rest := [.int i2_5, .ref a10]) F hw hl.1 (c_X0_stepOf l G cI cJ ad a0 a1 a8 a10 a12 a14 a16 x_keyCount x_bucketCount x_seed v7 N v12 ev12 H.size) gX0_hashKeys_X0_stepOf rfl ⟨rfl, md_X0_stepOf⟩ ⟨Nat.le_of_ble_eq_true rfl, Nat.le_of_ble_eq_true rfl⟩ ⟨Nat.le_of_ble_eq_true rfl, Nat.le_of_ble_eq_true rfl⟩ 0 0 rfl rfl rfl rfl (Nat.le_of_ble_eq_true rfl) dX0_hashKeys_70) ⟨rfl, rfl⟩ [0] (by decide) rfl rfl (fun H locs hw => ?_)
        have hw : kk_wd G A s.heap [(a0, .inr (0, [.ref a1, .ref a8, .ref a10, .ref a12, .ref a14, .ref a16, .int x_keyCount, .int x_bucketCount, .int x_seed])), (a1, .inr (2, [.ref a2, .ref a4, .ref a6, .int v3.1, .int v3.2.1])), (a2, .inr (6, [.ref a3])), (a3, .inl (cI, 120, .inl v9.1)), (a4, .inr (6, [.ref a5])), (a5, .inl (cI, 121, .inl v9.2)), (a6, .inr (6, [.ref a7])), (a7, .inl (cI, 120, .inl f_ranksByBucket_members)), (a8, .inr (6, [.ref a9])), (a9, .inl (cI, 120, .inl v11)), (a10, .inr (6, [.ref a11])), (a11, .inl (cI, 120, .inl f_steps_5)), (b0, .inr (4, [.ref b1, .int q_x_size])), (b1, .inr (6, [.ref b2])), (b2, .inl (cI, 120, .inl q_f_places))] H locs := hw
        obtain ⟨v13, ev13, hF1⟩ := kk_bind hF1
        refine kk_callV 0 0 hw (kk_runN (As := [.int i2_5, .int v12]) (rest := []) F hw hl.1 (c_X6_set l G cI cJ ad a10 a11 120 f_steps_5 i2_5 v12 N v13 ev13 H.size) gX0_hashKeys_X6_set_n90 rfl nl_37 m_X0_hashKeys_Cond_initialized_yX6_set_cls m_X0_hashKeys_Cond_instanceMethod_yX6_set m_X0_hashKeys_Cond_selects_RX6_yX6_set_yX6_set md_X6_set ⟨Nat.le_of_ble_eq_true rfl, Nat.le_of_ble_eq_true rfl⟩ ⟨Nat.le_of_ble_eq_true rfl, Nat.le_of_ble_eq_true rfl⟩ 10 6 rfl rfl rfl rfl (Nat.le_of_ble_eq_true rfl) dX0_hashKeys_73) ⟨rfl, rfl⟩ [10, 11] (by decide) rfl rfl (fun H locs hw => ?_)
        have hw : kk_wd G A s.heap [(a0, .inr (0, [.ref a1, .ref a8, .ref a10, .ref a12, .ref a14, .ref a16, .int x_keyCount, .int x_bucketCount, .int x_seed])), (a1, .inr (2, [.ref a2, .ref a4, .ref a6, .int v3.1, .int v3.2.1])), (a2, .inr (6, [.ref a3])), (a3, .inl (cI, 120, .inl v9.1)), (a4, .inr (6, [.ref a5])), (a5, .inl (cI, 121, .inl v9.2)), (a6, .inr (6, [.ref a7])), (a7, .inl (cI, 120, .inl f_ranksByBucket_members)), (a8, .inr (6, [.ref a9])), (a9, .inl (cI, 120, .inl v11)), (a10, .inr (6, [.ref a11])), (a11, .inl (cI, 120, .inl v13)), (b0, .inr (4, [.ref b1, .int q_x_size])), (b1, .inr (6, [.ref b2])), (b2, .inl (cI, 120, .inl q_f_places))] H locs := hw
        refine lv_iinc (v := (i2_5 + 1)) (lv' := [(2, .int (i2_5 + 1)), (3, .int v7), (0, .ref a0), (1, .ref b0)]) hx hb dX0_hashKeys_76 hl (k := 3) rfl rfl (by decide) rfl (fun ls hl => ?_)
        refine lv_goto (tgt := 17) hx hb dX0_hashKeys_79 (by decide) ?_
        have hy := Option.some.inj hF1
        subst hy
        exact ih5 v9.1 v9.2 v11 v13 (i2_5 + 1) hI1 _ _ _ hw (lv_sub hl [2, 3, 0] rfl)
  exact hL5 N f_ranksByBucket_groups v3.2.2 f_starts f_steps 0 hz5 _ _ _ hw (lv_sub hl [1, 2, 0] rfl)
theorem ui_X0_largestBucket_X0 : ∀ w ∈ u_ws RX0 TX0 9, w ∈ wsX0_largestBucket := by decide +kernel
theorem m_X0_largestBucket_Cond_fieldLink_RX0_54_PerfectPew_Displacer_bucketCount_I_ : Cond.fieldLink RX0 54 "PerfectPew$Displacer" "bucketCount" "I" ∈ wsX0_largestBucket := by decide +kernel
theorem m_X0_largestBucket_Cond_fieldLink_RX0_14_PerfectPew_Displacer_ranksByBucket_LPerfectPew_Groups_ : Cond.fieldLink RX0 14 "PerfectPew$Displacer" "ranksByBucket" "LPerfectPew$Groups;" ∈ wsX0_largestBucket := by decide +kernel
theorem m_X0_largestBucket_Cond_methodLink_RX0_113_Lib_Math_max_name : Cond.methodLink RX0 113 Lib.Math.max.name ∈ wsX0_largestBucket := by decide +kernel
theorem m_X0_largestBucket_Cond_static_Lib_Math_max_name : Cond.static Lib.Math.max.name ∈ wsX0_largestBucket := by decide +kernel
theorem m_X0_largestBucket_Cond_initialized_java_lang_Math_ : Cond.initialized "java/lang/Math" ∈ wsX0_largestBucket := by decide +kernel
theorem m_X0_largestBucket_Cond_code_Lib_Math_max_name_Lib_Math_max_code_2_some_int_ : Cond.code Lib.Math.max.name Lib.Math.max.code 2 (some .int) ∈ wsX0_largestBucket := by decide +kernel
theorem m_X0_largestBucket_Cond_initialized_yX2_sizeOf_cls : Cond.initialized yX2_sizeOf.cls ∈ wsX0_largestBucket := by decide +kernel
theorem m_X0_largestBucket_Cond_instanceMethod_yX2_sizeOf : Cond.instanceMethod yX2_sizeOf ∈ wsX0_largestBucket := by decide +kernel
theorem m_X0_largestBucket_Cond_selects_RX2_yX2_sizeOf_yX2_sizeOf : Cond.selects RX2 yX2_sizeOf yX2_sizeOf ∈ wsX0_largestBucket := by decide +kernel
set_option maxRecDepth 100000 in
set_option maxHeartbeats 4000000 in
theorem c_X0_largestBucket (l : Launch) (G : va_G) (cI cJ : ClassId) (ad : Nat → Nat) (a0 a1 a2 a4 a5 a6 a8 a10 a12 a14 a16 : Nat) (x_keyCount : Int32) (x_bucketCount : Int32) (x_seed : Int32) (x_ranksByBucket_thingCount : Int32) (x_ranksByBucket_groupCount : Int32) (f_ranksByBucket_begins : Nat → Int32) (N : Nat) (x : Int32) (hF0 : F_X0_largestBucket N x_bucketCount f_ranksByBucket_begins = some x) : kk_I l yX0_largestBucket wsX0_largestBucket 3 0 0 63 [.ref a0] G cI cJ ad [(a0, .inr (0, [.ref a1, .ref a8, .ref a10, .ref a12, .ref a14, .ref a16, .int x_keyCount, .int x_bucketCount, .int x_seed])), (a1, .inr (2, [.ref a2, .ref a4, .ref a6, .int x_ranksByBucket_thingCount, .int x_ranksByBucket_groupCount])), (a4, .inr (6, [.ref a5])), (a5, .inl (cI, 121, .inl f_ranksByBucket_begins))] x [(a0, .inr (0, [.ref a1, .ref a8, .ref a10, .ref a12, .ref a14, .ref a16, .int x_keyCount, .int x_bucketCount, .int x_seed])), (a1, .inr (2, [.ref a2, .ref a4, .ref a6, .int x_ranksByBucket_thingCount, .int x_ranksByBucket_groupCount])), (a4, .inr (6, [.ref a5])), (a5, .inl (cI, 121, .inl f_ranksByBucket_begins))] := by
  refine kk_ofI (cc := cX0_largestBucket) (maxL := 3) (by decide) rfl (Nat.le_of_ble_eq_true rfl) ?_
  intro p e s m below meth c A Q ls H locs hx hb hml hown hts hE hw hl hret
  have F : kk_at p m c cX0_largestBucket 3 s _ wsX0_largestBucket RX0 G cI cJ ad A := ⟨⟨hx, hb, hml, hown, hts⟩, hE⟩
  have hl : lv_has ls 3 [(0, .ref a0)] := hl
  unfold F_X0_largestBucket at hF0
  have hJ1 : ∀ (i1_1 : Int32), J_X0_largestBucket_31 N i1_1 = some x → ∀ (H : Heap) (locs : List Loc) (ls : Array Slot), kk_wd G A s.heap [(a0, .inr (0, [.ref a1, .ref a8, .ref a10, .ref a12, .ref a14, .ref a16, .int x_keyCount, .int x_bucketCount, .int x_seed])), (a1, .inr (2, [.ref a2, .ref a4, .ref a6, .int x_ranksByBucket_thingCount, .int x_ranksByBucket_groupCount])), (a4, .inr (6, [.ref a5])), (a5, .inl (cI, 121, .inl f_ranksByBucket_begins))] H locs → lv_has ls 3 [(1, .int i1_1)] → W p l e (kk_rm 3 0 0 63) s m ([.ref a0] : List Value).toArray below meth c H locs 0 0 Q (F0 m 31 ls []) := by
    intro i1_1 hF0 H locs ls hw hl
    unfold J_X0_largestBucket_31 at hF0
    refine lv_iload_n hx hb dX0_largestBucket_31 rfl (lv_at hl 0 rfl) ?_
    have hy := Option.some.inj hF0
    subst hy
    exact hret dX0_largestBucket_32 (by decide) (by decide) hw
  refine lv_iconst (v := 0) hx hb dX0_largestBucket_0 (by decide) ?_
  refine lv_istore_n (lv' := [(1, .int 0), (0, .ref a0)]) hx hb dX0_largestBucket_1 rfl hl (by decide) rfl (fun ls hl => ?_)
  refine lv_iconst (v := 0) hx hb dX0_largestBucket_2 (by decide) ?_
  refine lv_istore_n (lv' := [(2, .int 0), (1, .int 0), (0, .ref a0)]) hx hb dX0_largestBucket_3 rfl hl (by decide) rfl (fun ls hl => ?_)
  obtain ⟨z2, hz3, hF0⟩ := kk_bind hF0
  have hL3 : ∀ (n3 : Nat) (i1_3 : Int32) (i2_3 : Int32), kk_iter (fun (σ : (Int32 × Int32)) => L_X0_largestBucket_4 N x_bucketCount f_ranksByBucket_begins σ.1 σ.2) n3 (i1_3, i2_3) = some z2 → ∀ (H : Heap) (locs : List Loc) (ls : Array Slot), kk_wd G A s.heap [(a0, .inr (0, [.ref a1, .ref a8, .ref a10, .ref a12, .ref a14, .ref a16, .int x_keyCount, .int x_bucketCount, .int x_seed])), (a1, .inr (2, [.ref a2, .ref a4, .ref a6, .int x_ranksByBucket_thingCount, .int x_ranksByBucket_groupCount])), (a4, .inr (6, [.ref a5])), (a5, .inl (cI, 121, .inl f_ranksByBucket_begins))] H locs → lv_has ls 3 [(0, .ref a0), (1, .int i1_3), (2, .int i2_3)] → W p l e (kk_rm 3 0 0 63) s m ([.ref a0] : List Value).toArray below meth c H locs 0 0 Q (F0 m 4 ls []) := by
    intro n3
    induction n3 with
    | zero => intro i1_3 i2_3 h; exact kk_iter0 h
    | succ n3 ih3 =>
      intro i1_3 i2_3 hq H locs ls hw hl
      obtain ⟨y3, hF1, hI1⟩ := kk_iterS hq
      have hF1 : L_X0_largestBucket_4 N x_bucketCount f_ranksByBucket_begins i1_3 i2_3 = some y3 := hF1
      unfold L_X0_largestBucket_4 at hF1
      refine lv_iload_n hx hb dX0_largestBucket_4 rfl (lv_at hl 2 rfl) ?_
      refine lv_aload_n hx hb dX0_largestBucket_5 rfl (lv_at hl 0 rfl) ?_
      refine kk_get (T := TX0) F hw ui_X0_largestBucket_X0 0 rfl rfl 7 (by decide) m_X0_largestBucket_Cond_fieldLink_RX0_54_PerfectPew_Displacer_bucketCount_I_ rfl dX0_largestBucket_6 ?_
      refine lv_icmp_ge (tgt := 31) hx hb dX0_largestBucket_9 (by decide) (fun c4 => ?_) (fun c4 => ?_)
      · have hF1 := (if_pos c4).symm.trans hF1
        have hy := Option.some.inj hF1
        subst hy
        have hz := Option.some.inj hI1
        subst hz
        exact hJ1 i1_3 hF0 _ _ _ hw (lv_sub hl [1] rfl)
      · have hF1 := (if_neg c4).symm.trans hF1
        refine lv_iload_n hx hb dX0_largestBucket_12 rfl (lv_at hl 1 rfl) ?_
        refine lv_aload_n hx hb dX0_largestBucket_13 rfl (lv_at hl 0 rfl) ?_
        refine kk_get (T := TX0) F hw ui_X0_largestBucket_X0 0 rfl rfl 0 (by decide) m_X0_largestBucket_Cond_fieldLink_RX0_14_PerfectPew_Displacer_ranksByBucket_LPerfectPew_Groups_ rfl dX0_largestBucket_14 ?_
        refine lv_iload_n hx hb dX0_largestBucket_17 rfl (lv_at hl 2 rfl) ?_
        obtain ⟨v5, ev5, hF1⟩ := kk_bind hF1
        refine kk_callI 0 0 hw (kk_runN (As := [.int i2_3]) (rest := [.int i1_3]) F hw hl.1 (c_X2_sizeOf l G cI cJ ad a1 a2 a4 a5 a6 x_ranksByBucket_thingCount x_ranksByBucket_groupCount 121 f_ranksByBucket_begins i2_3 N v5 ev5 H.size) gX0_largestBucket_X2_sizeOf_n106 rfl nl_40 m_X0_largestBucket_Cond_initialized_yX2_sizeOf_cls m_X0_largestBucket_Cond_instanceMethod_yX2_sizeOf m_X0_largestBucket_Cond_selects_RX2_yX2_sizeOf_yX2_sizeOf md_X2_sizeOf ⟨Nat.le_of_ble_eq_true rfl, Nat.le_of_ble_eq_true rfl⟩ ⟨Nat.le_of_ble_eq_true rfl, Nat.le_of_ble_eq_true rfl⟩ 1 2 rfl rfl rfl rfl (Nat.le_of_ble_eq_true rfl) dX0_largestBucket_18) ⟨rfl, rfl⟩ [1, 2, 3] (by decide) rfl rfl (fun H locs hw => ?_)
        have hw : kk_wd G A s.heap [(a0, .inr (0, [.ref a1, .ref a8, .ref a10, .ref a12, .ref a14, .ref a16, .int x_keyCount, .int x_bucketCount, .int x_seed])), (a1, .inr (2, [.ref a2, .ref a4, .ref a6, .int x_ranksByBucket_thingCount, .int x_ranksByBucket_groupCount])), (a4, .inr (6, [.ref a5])), (a5, .inl (cI, 121, .inl f_ranksByBucket_begins))] H locs := hw
        refine kk_max F hl.1 m_X0_largestBucket_Cond_methodLink_RX0_113_Lib_Math_max_name m_X0_largestBucket_Cond_static_Lib_Math_max_name m_X0_largestBucket_Cond_initialized_java_lang_Math_ m_X0_largestBucket_Cond_code_Lib_Math_max_name_Lib_Math_max_code_2_some_int_ (by decide) (by decide) ⟨by decide, by decide⟩ dX0_largestBucket_21 ?_
        refine lv_istore_n (lv' := [(1, .int (if i1_3 < v5 then v5 else i1_3)), (0, .ref a0), (2, .int i2_3)]) hx hb dX0_largestBucket_24 rfl hl (by decide) rfl (fun ls hl => ?_)
        refine lv_iinc (v := (i2_3 + 1)) (lv' := [(2, .int (i2_3 + 1)), (1, .int (if i1_3 < v5 then v5 else i1_3)), (0, .ref a0)]) hx hb dX0_largestBucket_25 hl (k := 2) rfl rfl (by decide) rfl (fun ls hl => ?_)
        refine lv_goto (tgt := 4) hx hb dX0_largestBucket_28 (by decide) ?_
        have hy := Option.some.inj hF1
        subst hy
        exact ih3 (if i1_3 < v5 then v5 else i1_3) (i2_3 + 1) hI1 _ _ _ hw (lv_sub hl [2, 1, 0] rfl)
  exact hL3 N 0 0 hz3 _ _ _ hw (lv_sub hl [2, 1, 0] rfl)
theorem ui_X0_numberWith_X0 : ∀ w ∈ u_ws RX0 TX0 9, w ∈ wsX0_numberWith := by decide +kernel
theorem m_X0_numberWith_Cond_fieldLink_RX0_25_PerfectPew_Displacer_starts_LPerfectPew_Row_ : Cond.fieldLink RX0 25 "PerfectPew$Displacer" "starts" "LPerfectPew$Row;" ∈ wsX0_numberWith := by decide +kernel
theorem m_X0_numberWith_Cond_fieldLink_RX0_29_PerfectPew_Displacer_steps_LPerfectPew_Row_ : Cond.fieldLink RX0 29 "PerfectPew$Displacer" "steps" "LPerfectPew$Row;" ∈ wsX0_numberWith := by decide +kernel
theorem m_X0_numberWith_Cond_fieldLink_RX0_47_PerfectPew_Displacer_keyCount_I_ : Cond.fieldLink RX0 47 "PerfectPew$Displacer" "keyCount" "I" ∈ wsX0_numberWith := by decide +kernel
theorem m_X0_numberWith_Cond_initialized_yX7_remainder_cls : Cond.initialized yX7_remainder.cls ∈ wsX0_numberWith := by decide +kernel
theorem m_X0_numberWith_Cond_static_yX7_remainder : Cond.static yX7_remainder ∈ wsX0_numberWith := by decide +kernel
theorem m_X0_numberWith_Cond_initialized_yX6_get_cls : Cond.initialized yX6_get.cls ∈ wsX0_numberWith := by decide +kernel
theorem m_X0_numberWith_Cond_instanceMethod_yX6_get : Cond.instanceMethod yX6_get ∈ wsX0_numberWith := by decide +kernel
theorem m_X0_numberWith_Cond_selects_RX6_yX6_get_yX6_get : Cond.selects RX6 yX6_get yX6_get ∈ wsX0_numberWith := by decide +kernel
set_option maxRecDepth 100000 in
set_option maxHeartbeats 4000000 in
theorem c_X0_numberWith (l : Launch) (G : va_G) (cI cJ : ClassId) (ad : Nat → Nat) (a0 a1 a8 a9 a10 a11 a12 a14 a16 : Nat) (x_keyCount : Int32) (x_bucketCount : Int32) (x_seed : Int32) (f_starts : Nat → Int32) (f_steps : Nat → Int32) (i1 : Int32) (i2 : Int32) (N : Nat) (x : Int32) (hF0 : F_X0_numberWith N x_keyCount f_starts f_steps i1 i2 = some x) : kk_I l yX0_numberWith wsX0_numberWith 1 0 0 21 [.ref a0, .int i1, .int i2] G cI cJ ad [(a0, .inr (0, [.ref a1, .ref a8, .ref a10, .ref a12, .ref a14, .ref a16, .int x_keyCount, .int x_bucketCount, .int x_seed])), (a8, .inr (6, [.ref a9])), (a9, .inl (cI, 120, .inl f_starts)), (a10, .inr (6, [.ref a11])), (a11, .inl (cI, 120, .inl f_steps))] x [(a0, .inr (0, [.ref a1, .ref a8, .ref a10, .ref a12, .ref a14, .ref a16, .int x_keyCount, .int x_bucketCount, .int x_seed])), (a8, .inr (6, [.ref a9])), (a9, .inl (cI, 120, .inl f_starts)), (a10, .inr (6, [.ref a11])), (a11, .inl (cI, 120, .inl f_steps))] := by
  refine kk_ofI (cc := cX0_numberWith) (maxL := 3) (by decide) rfl (Nat.le_of_ble_eq_true rfl) ?_
  intro p e s m below meth c A Q ls H locs hx hb hml hown hts hE hw hl hret
  have F : kk_at p m c cX0_numberWith 3 s _ wsX0_numberWith RX0 G cI cJ ad A := ⟨⟨hx, hb, hml, hown, hts⟩, hE⟩
  have hl : lv_has ls 3 [(0, .ref a0), (1, .int i1), (2, .int i2)] := hl
  unfold F_X0_numberWith at hF0
  refine lv_aload_n hx hb dX0_numberWith_0 rfl (lv_at hl 0 rfl) ?_
  refine kk_get (T := TX0) F hw ui_X0_numberWith_X0 0 rfl rfl 1 (by decide) m_X0_numberWith_Cond_fieldLink_RX0_25_PerfectPew_Displacer_starts_LPerfectPew_Row_ rfl dX0_numberWith_1 ?_
  refine lv_iload_n hx hb dX0_numberWith_4 rfl (lv_at hl 1 rfl) ?_
  obtain ⟨v1, ev1, hF0⟩ := kk_bind hF0
  refine kk_callI 0 0 hw (kk_runN (As := [.int i1]) (rest := []) F hw hl.1 (c_X6_get l G cI cJ ad a8 a9 120 f_starts i1 N v1 ev1 H.size) gX0_numberWith_X6_get_n137 rfl nl_44 m_X0_numberWith_Cond_initialized_yX6_get_cls m_X0_numberWith_Cond_instanceMethod_yX6_get m_X0_numberWith_Cond_selects_RX6_yX6_get_yX6_get md_X6_get ⟨Nat.le_of_ble_eq_true rfl, Nat.le_of_ble_eq_true rfl⟩ ⟨Nat.le_of_ble_eq_true rfl, Nat.le_of_ble_eq_true rfl⟩ 1 6 rfl rfl rfl rfl (Nat.le_of_ble_eq_true rfl) dX0_numberWith_5) ⟨rfl, rfl⟩ [1, 2] (by decide) rfl rfl (fun H locs hw => ?_)
  have hw : kk_wd G A s.heap [(a0, .inr (0, [.ref a1, .ref a8, .ref a10, .ref a12, .ref a14, .ref a16, .int x_keyCount, .int x_bucketCount, .int x_seed])), (a8, .inr (6, [.ref a9])), (a9, .inl (cI, 120, .inl f_starts)), (a10, .inr (6, [.ref a11])), (a11, .inl (cI, 120, .inl f_steps))] H locs := hw
  refine lv_iload_n hx hb dX0_numberWith_8 rfl (lv_at hl 2 rfl) ?_
  refine lv_aload_n hx hb dX0_numberWith_9 rfl (lv_at hl 0 rfl) ?_
  refine kk_get (T := TX0) F hw ui_X0_numberWith_X0 0 rfl rfl 2 (by decide) m_X0_numberWith_Cond_fieldLink_RX0_29_PerfectPew_Displacer_steps_LPerfectPew_Row_ rfl dX0_numberWith_10 ?_
  refine lv_iload_n hx hb dX0_numberWith_13 rfl (lv_at hl 1 rfl) ?_
  obtain ⟨v2, ev2, hF0⟩ := kk_bind hF0
  refine kk_callI 0 0 hw (kk_runN (As := [.int i1]) (rest := [.int i2, .int v1]) F hw hl.1 (c_X6_get l G cI cJ ad a10 a11 120 f_steps i1 N v2 ev2 H.size) gX0_numberWith_X6_get_n137 rfl nl_44 m_X0_numberWith_Cond_initialized_yX6_get_cls m_X0_numberWith_Cond_instanceMethod_yX6_get m_X0_numberWith_Cond_selects_RX6_yX6_get_yX6_get md_X6_get ⟨Nat.le_of_ble_eq_true rfl, Nat.le_of_ble_eq_true rfl⟩ ⟨Nat.le_of_ble_eq_true rfl, Nat.le_of_ble_eq_true rfl⟩ 3 6 rfl rfl rfl rfl (Nat.le_of_ble_eq_true rfl) dX0_numberWith_14) ⟨rfl, rfl⟩ [3, 4] (by decide) rfl rfl (fun H locs hw => ?_)
  have hw : kk_wd G A s.heap [(a0, .inr (0, [.ref a1, .ref a8, .ref a10, .ref a12, .ref a14, .ref a16, .int x_keyCount, .int x_bucketCount, .int x_seed])), (a8, .inr (6, [.ref a9])), (a9, .inl (cI, 120, .inl f_starts)), (a10, .inr (6, [.ref a11])), (a11, .inl (cI, 120, .inl f_steps))] H locs := hw
  refine lv_imul hx hb dX0_numberWith_17 ?_
  refine lv_iadd hx hb dX0_numberWith_18 ?_
  refine lv_aload_n hx hb dX0_numberWith_19 rfl (lv_at hl 0 rfl) ?_
  refine kk_get (T := TX0) F hw ui_X0_numberWith_X0 0 rfl rfl 6 (by decide) m_X0_numberWith_Cond_fieldLink_RX0_47_PerfectPew_Displacer_keyCount_I_ rfl dX0_numberWith_20 ?_
  obtain ⟨v3, ev3, hF0⟩ := kk_bind hF0
  refine kk_callI 0 0 hw (kk_runSN (As := [.int (v1 + (i2 * v2)), .int x_keyCount]) (rest := []) F hw hl.1 (c_X7_remainder l G cI cJ ad (v1 + (i2 * v2)) x_keyCount N v3 ev3 H.size) gX0_numberWith_X7_remainder_n143 rfl nl_33 m_X0_numberWith_Cond_initialized_yX7_remainder_cls m_X0_numberWith_Cond_static_yX7_remainder md_X7_remainder ⟨Nat.le_of_ble_eq_true rfl, Nat.le_of_ble_eq_true rfl⟩ ⟨Nat.le_of_ble_eq_true rfl, Nat.le_of_ble_eq_true rfl⟩ rfl (Nat.le_of_ble_eq_true rfl) dX0_numberWith_23) ⟨rfl, rfl⟩ [] (by decide) rfl rfl (fun H locs hw => ?_)
  have hy := Option.some.inj hF0
  subst hy
  exact hret dX0_numberWith_26 (by decide) (by decide) hw
theorem ui_X0_takeBack_X0 : ∀ w ∈ u_ws RX0 TX0 9, w ∈ wsX0_takeBack := by decide +kernel
theorem m_X0_takeBack_Cond_fieldLink_RX0_14_PerfectPew_Displacer_ranksByBucket_LPerfectPew_Groups_ : Cond.fieldLink RX0 14 "PerfectPew$Displacer" "ranksByBucket" "LPerfectPew$Groups;" ∈ wsX0_takeBack := by decide +kernel
theorem m_X0_takeBack_Cond_fieldLink_RX0_38_PerfectPew_Displacer_ranksByNumber_LPerfectPew_Row_ : Cond.fieldLink RX0 38 "PerfectPew$Displacer" "ranksByNumber" "LPerfectPew$Row;" ∈ wsX0_takeBack := by decide +kernel
theorem m_X0_takeBack_Cond_fieldLink_RX0_32_PerfectPew_Displacer_numbers_LPerfectPew_Row_ : Cond.fieldLink RX0 32 "PerfectPew$Displacer" "numbers" "LPerfectPew$Row;" ∈ wsX0_takeBack := by decide +kernel
theorem m_X0_takeBack_Cond_initialized_yX6_set_cls : Cond.initialized yX6_set.cls ∈ wsX0_takeBack := by decide +kernel
theorem m_X0_takeBack_Cond_instanceMethod_yX6_set : Cond.instanceMethod yX6_set ∈ wsX0_takeBack := by decide +kernel
theorem m_X0_takeBack_Cond_selects_RX6_yX6_set_yX6_set : Cond.selects RX6 yX6_set yX6_set ∈ wsX0_takeBack := by decide +kernel
theorem m_X0_takeBack_Cond_initialized_yX6_get_cls : Cond.initialized yX6_get.cls ∈ wsX0_takeBack := by decide +kernel
theorem m_X0_takeBack_Cond_instanceMethod_yX6_get : Cond.instanceMethod yX6_get ∈ wsX0_takeBack := by decide +kernel
theorem m_X0_takeBack_Cond_selects_RX6_yX6_get_yX6_get : Cond.selects RX6 yX6_get yX6_get ∈ wsX0_takeBack := by decide +kernel
theorem m_X0_takeBack_Cond_initialized_yX2_memberAt_cls : Cond.initialized yX2_memberAt.cls ∈ wsX0_takeBack := by decide +kernel
theorem m_X0_takeBack_Cond_instanceMethod_yX2_memberAt : Cond.instanceMethod yX2_memberAt ∈ wsX0_takeBack := by decide +kernel
theorem m_X0_takeBack_Cond_selects_RX2_yX2_memberAt_yX2_memberAt : Cond.selects RX2 yX2_memberAt yX2_memberAt ∈ wsX0_takeBack := by decide +kernel
set_option maxRecDepth 100000 in
set_option maxHeartbeats 4000000 in
theorem c_X0_takeBack (l : Launch) (G : va_G) (cI cJ : ClassId) (ad : Nat → Nat) (a0 a1 a2 a4 a6 a7 a8 a10 a12 a13 a14 a16 a17 : Nat) (x_keyCount : Int32) (x_bucketCount : Int32) (x_seed : Int32) (x_ranksByBucket_thingCount : Int32) (x_ranksByBucket_groupCount : Int32) (f_ranksByBucket_members : Nat → Int32) (f_numbers : Nat → Int32) (f_ranksByNumber : Nat → Int32) (i1 : Int32) (i2 : Int32) (N : Nat) (x : (Nat → Int32)) (hF0 : F_X0_takeBack N f_ranksByBucket_members f_numbers f_ranksByNumber i1 i2 = some x) : kk_V l yX0_takeBack wsX0_takeBack 2 0 0 42 [.ref a0, .int i1, .int i2] G cI cJ ad [(a0, .inr (0, [.ref a1, .ref a8, .ref a10, .ref a12, .ref a14, .ref a16, .int x_keyCount, .int x_bucketCount, .int x_seed])), (a1, .inr (2, [.ref a2, .ref a4, .ref a6, .int x_ranksByBucket_thingCount, .int x_ranksByBucket_groupCount])), (a6, .inr (6, [.ref a7])), (a7, .inl (cI, 120, .inl f_ranksByBucket_members)), (a12, .inr (6, [.ref a13])), (a13, .inl (cI, 120, .inl f_numbers)), (a16, .inr (6, [.ref a17])), (a17, .inl (cI, 120, .inl f_ranksByNumber))] [(a0, .inr (0, [.ref a1, .ref a8, .ref a10, .ref a12, .ref a14, .ref a16, .int x_keyCount, .int x_bucketCount, .int x_seed])), (a1, .inr (2, [.ref a2, .ref a4, .ref a6, .int x_ranksByBucket_thingCount, .int x_ranksByBucket_groupCount])), (a6, .inr (6, [.ref a7])), (a7, .inl (cI, 120, .inl f_ranksByBucket_members)), (a12, .inr (6, [.ref a13])), (a13, .inl (cI, 120, .inl f_numbers)), (a16, .inr (6, [.ref a17])), (a17, .inl (cI, 120, .inl x))] := by
  refine kk_ofV (cc := cX0_takeBack) (maxL := 5) (by decide) rfl (Nat.le_of_ble_eq_true rfl) ?_
  intro p e s m below meth c A Q ls H locs hx hb hml hown hts hE hw hl hret
  have F : kk_at p m c cX0_takeBack 5 s _ wsX0_takeBack RX0 G cI cJ ad A := ⟨⟨hx, hb, hml, hown, hts⟩, hE⟩
  have hl : lv_has ls 5 [(0, .ref a0), (1, .int i1), (2, .int i2)] := hl
  unfold F_X0_takeBack at hF0
  have hJ1 : ∀ (f_ranksByNumber_1 : Nat → Int32), J_X0_takeBack_40 N f_ranksByNumber_1 = some x → ∀ (H : Heap) (locs : List Loc) (ls : Array Slot), kk_wd G A s.heap [(a0, .inr (0, [.ref a1, .ref a8, .ref a10, .ref a12, .ref a14, .ref a16, .int x_keyCount, .int x_bucketCount, .int x_seed])), (a1, .inr (2, [.ref a2, .ref a4, .ref a6, .int x_ranksByBucket_thingCount, .int x_ranksByBucket_groupCount])), (a6, .inr (6, [.ref a7])), (a7, .inl (cI, 120, .inl f_ranksByBucket_members)), (a12, .inr (6, [.ref a13])), (a13, .inl (cI, 120, .inl f_numbers)), (a16, .inr (6, [.ref a17])), (a17, .inl (cI, 120, .inl f_ranksByNumber_1))] H locs → lv_has ls 5 [] → W p l e (kk_rm 2 0 0 42) s m ([.ref a0, .int i1, .int i2] : List Value).toArray below meth c H locs 0 0 Q (F0 m 40 ls []) := by
    intro f_ranksByNumber_1 hF0 H locs ls hw hl
    unfold J_X0_takeBack_40 at hF0
    have hy := Option.some.inj hF0
    subst hy
    exact hret dX0_takeBack_40 (by decide) (by decide) hw
  refine lv_iload_n hx hb dX0_takeBack_0 rfl (lv_at hl 1 rfl) ?_
  refine lv_istore_n (lv' := [(3, .int i1), (0, .ref a0), (1, .int i1), (2, .int i2)]) hx hb dX0_takeBack_1 rfl hl (by decide) rfl (fun ls hl => ?_)
  obtain ⟨z2, hz3, hF0⟩ := kk_bind hF0
  have hL3 : ∀ (n3 : Nat) (f_ranksByNumber_3 : Nat → Int32) (i3_3 : Int32), kk_iter (fun (σ : ((Nat → Int32) × Int32)) => L_X0_takeBack_2 N f_ranksByBucket_members f_numbers i2 σ.1 σ.2) n3 (f_ranksByNumber_3, i3_3) = some z2 → ∀ (H : Heap) (locs : List Loc) (ls : Array Slot), kk_wd G A s.heap [(a0, .inr (0, [.ref a1, .ref a8, .ref a10, .ref a12, .ref a14, .ref a16, .int x_keyCount, .int x_bucketCount, .int x_seed])), (a1, .inr (2, [.ref a2, .ref a4, .ref a6, .int x_ranksByBucket_thingCount, .int x_ranksByBucket_groupCount])), (a6, .inr (6, [.ref a7])), (a7, .inl (cI, 120, .inl f_ranksByBucket_members)), (a12, .inr (6, [.ref a13])), (a13, .inl (cI, 120, .inl f_numbers)), (a16, .inr (6, [.ref a17])), (a17, .inl (cI, 120, .inl f_ranksByNumber_3))] H locs → lv_has ls 5 [(0, .ref a0), (2, .int i2), (3, .int i3_3)] → W p l e (kk_rm 2 0 0 42) s m ([.ref a0, .int i1, .int i2] : List Value).toArray below meth c H locs 0 0 Q (F0 m 2 ls []) := by
    intro n3
    induction n3 with
    | zero => intro f_ranksByNumber_3 i3_3 h; exact kk_iter0 h
    | succ n3 ih3 =>
      intro f_ranksByNumber_3 i3_3 hq H locs ls hw hl
      obtain ⟨y3, hF1, hI1⟩ := kk_iterS hq
      have hF1 : L_X0_takeBack_2 N f_ranksByBucket_members f_numbers i2 f_ranksByNumber_3 i3_3 = some y3 := hF1
      unfold L_X0_takeBack_2 at hF1
      refine lv_iload_n hx hb dX0_takeBack_2 rfl (lv_at hl 2 rfl) ?_
      refine lv_iload_n hx hb dX0_takeBack_3 rfl (lv_at hl 1 rfl) ?_
      refine lv_icmp_ge (tgt := 40) hx hb dX0_takeBack_4 (by decide) (fun c4 => ?_) (fun c4 => ?_)
      · have hF1 := (if_pos c4).symm.trans hF1
        have hy := Option.some.inj hF1
        subst hy
        have hz := Option.some.inj hI1
        subst hz
        exact hJ1 f_ranksByNumber_3 hF0 _ _ _ hw (lv_sub hl [] rfl)
      · have hF1 := (if_neg c4).symm.trans hF1
        refine lv_aload_n hx hb dX0_takeBack_7 rfl (lv_at hl 0 rfl) ?_
        refine kk_get (T := TX0) F hw ui_X0_takeBack_X0 0 rfl rfl 0 (by decide) m_X0_takeBack_Cond_fieldLink_RX0_14_PerfectPew_Displacer_ranksByBucket_LPerfectPew_Groups_ rfl dX0_takeBack_8 ?_
        refine lv_iload_n hx hb dX0_takeBack_11 rfl (lv_at hl 2 rfl) ?_
        obtain ⟨v5, ev5, hF1⟩ := kk_bind hF1
        refine kk_callI 0 0 hw (kk_runN (As := [.int i3_3]) (rest := []) F hw hl.1 (c_X2_memberAt l G cI cJ ad a1 a2 a4 a6 a7 x_ranksByBucket_thingCount x_ranksByBucket_groupCount 120 f_ranksByBucket_members i3_3 N v5 ev5 H.size) gX0_takeBack_X2_memberAt_n131 rfl nl_43 m_X0_takeBack_Cond_initialized_yX2_memberAt_cls m_X0_takeBack_Cond_instanceMethod_yX2_memberAt m_X0_takeBack_Cond_selects_RX2_yX2_memberAt_yX2_memberAt md_X2_memberAt ⟨Nat.le_of_ble_eq_true rfl, Nat.le_of_ble_eq_true rfl⟩ ⟨Nat.le_of_ble_eq_true rfl, Nat.le_of_ble_eq_true rfl⟩ 1 2 rfl rfl rfl rfl (Nat.le_of_ble_eq_true rfl) dX0_takeBack_12) ⟨rfl, rfl⟩ [1, 2, 3] (by decide) rfl rfl (fun H locs hw => ?_)
        have hw : kk_wd G A s.heap [(a0, .inr (0, [.ref a1, .ref a8, .ref a10, .ref a12, .ref a14, .ref a16, .int x_keyCount, .int x_bucketCount, .int x_seed])), (a1, .inr (2, [.ref a2, .ref a4, .ref a6, .int x_ranksByBucket_thingCount, .int x_ranksByBucket_groupCount])), (a6, .inr (6, [.ref a7])), (a7, .inl (cI, 120, .inl f_ranksByBucket_members)), (a12, .inr (6, [.ref a13])), (a13, .inl (cI, 120, .inl f_numbers)), (a16, .inr (6, [.ref a17])), (a17, .inl (cI, 120, .inl f_ranksByNumber_3))] H locs := hw
        refine lv_istore (lv' := [(4, .int v5), (0, .ref a0), (2, .int i2), (3, .int i3_3)]) hx hb dX0_takeBack_15 hl (by decide) rfl (fun ls hl => ?_)
        refine lv_aload_n hx hb dX0_takeBack_17 rfl (lv_at hl 1 rfl) ?_
        refine kk_get (T := TX0) F hw ui_X0_takeBack_X0 0 rfl rfl 5 (by decide) m_X0_takeBack_Cond_fieldLink_RX0_38_PerfectPew_Displacer_ranksByNumber_LPerfectPew_Row_ rfl dX0_takeBack_18 ?_
        refine lv_aload_n hx hb dX0_takeBack_21 rfl (lv_at hl 1 rfl) ?_
        refine kk_get (T := TX0) F hw ui_X0_takeBack_X0 0 rfl rfl 3 (by decide) m_X0_takeBack_Cond_fieldLink_RX0_32_PerfectPew_Displacer_numbers_LPerfectPew_Row_ rfl dX0_takeBack_22 ?_
        refine lv_iload hx hb dX0_takeBack_25 (lv_at hl 0 rfl) ?_
        obtain ⟨v6, ev6, hF1⟩ := kk_bind hF1
        refine kk_callI 0 0 hw (kk_runN (As := [.int v5]) (rest := [.ref a16]) F hw hl.1 (c_X6_get l G cI cJ ad a12 a13 120 f_numbers v5 N v6 ev6 H.size) gX0_takeBack_X6_get_n137 rfl nl_44 m_X0_takeBack_Cond_initialized_yX6_get_cls m_X0_takeBack_Cond_instanceMethod_yX6_get m_X0_takeBack_Cond_selects_RX6_yX6_get_yX6_get md_X6_get ⟨Nat.le_of_ble_eq_true rfl, Nat.le_of_ble_eq_true rfl⟩ ⟨Nat.le_of_ble_eq_true rfl, Nat.le_of_ble_eq_true rfl⟩ 4 6 rfl rfl rfl rfl (Nat.le_of_ble_eq_true rfl) dX0_takeBack_27) ⟨rfl, rfl⟩ [4, 5] (by decide) rfl rfl (fun H locs hw => ?_)
        have hw : kk_wd G A s.heap [(a0, .inr (0, [.ref a1, .ref a8, .ref a10, .ref a12, .ref a14, .ref a16, .int x_keyCount, .int x_bucketCount, .int x_seed])), (a1, .inr (2, [.ref a2, .ref a4, .ref a6, .int x_ranksByBucket_thingCount, .int x_ranksByBucket_groupCount])), (a6, .inr (6, [.ref a7])), (a7, .inl (cI, 120, .inl f_ranksByBucket_members)), (a12, .inr (6, [.ref a13])), (a13, .inl (cI, 120, .inl f_numbers)), (a16, .inr (6, [.ref a17])), (a17, .inl (cI, 120, .inl f_ranksByNumber_3))] H locs := hw
        refine lv_iconst (v := (-1)) hx hb dX0_takeBack_30 (by decide) ?_
        obtain ⟨v7, ev7, hF1⟩ := kk_bind hF1
        refine kk_callV 0 0 hw (kk_runN (As := [.int v6, .int (-1)]) (rest := []) F hw hl.1 (c_X6_set l G cI cJ ad a16 a17 120 f_ranksByNumber_3 v6 (-1) N v7 ev7 H.size) gX0_takeBack_X6_set_n90 rfl nl_37 m_X0_takeBack_Cond_initialized_yX6_set_cls m_X0_takeBack_Cond_instanceMethod_yX6_set m_X0_takeBack_Cond_selects_RX6_yX6_set_yX6_set md_X6_set ⟨Nat.le_of_ble_eq_true rfl, Nat.le_of_ble_eq_true rfl⟩ ⟨Nat.le_of_ble_eq_true rfl, Nat.le_of_ble_eq_true rfl⟩ 6 6 rfl rfl rfl rfl (Nat.le_of_ble_eq_true rfl) dX0_takeBack_31) ⟨rfl, rfl⟩ [6, 7] (by decide) rfl rfl (fun H locs hw => ?_)
        have hw : kk_wd G A s.heap [(a0, .inr (0, [.ref a1, .ref a8, .ref a10, .ref a12, .ref a14, .ref a16, .int x_keyCount, .int x_bucketCount, .int x_seed])), (a1, .inr (2, [.ref a2, .ref a4, .ref a6, .int x_ranksByBucket_thingCount, .int x_ranksByBucket_groupCount])), (a6, .inr (6, [.ref a7])), (a7, .inl (cI, 120, .inl f_ranksByBucket_members)), (a12, .inr (6, [.ref a13])), (a13, .inl (cI, 120, .inl f_numbers)), (a16, .inr (6, [.ref a17])), (a17, .inl (cI, 120, .inl v7))] H locs := hw
        refine lv_iinc (v := (i3_3 + 1)) (lv' := [(3, .int (i3_3 + 1)), (4, .int v5), (0, .ref a0), (2, .int i2)]) hx hb dX0_takeBack_34 hl (k := 3) rfl rfl (by decide) rfl (fun ls hl => ?_)
        refine lv_goto (tgt := 2) hx hb dX0_takeBack_37 (by decide) ?_
        have hy := Option.some.inj hF1
        subst hy
        exact ih3 v7 (i3_3 + 1) hI1 _ _ _ hw (lv_sub hl [2, 3, 0] rfl)
  exact hL3 N f_ranksByNumber i1 hz3 _ _ _ hw (lv_sub hl [1, 3, 0] rfl)
theorem ui_X0_place_X0 : ∀ w ∈ u_ws RX0 TX0 9, w ∈ wsX0_place := by decide +kernel
theorem m_X0_place_Cond_fieldLink_RX0_14_PerfectPew_Displacer_ranksByBucket_LPerfectPew_Groups_ : Cond.fieldLink RX0 14 "PerfectPew$Displacer" "ranksByBucket" "LPerfectPew$Groups;" ∈ wsX0_place := by decide +kernel
theorem m_X0_place_Cond_fieldLink_RX0_38_PerfectPew_Displacer_ranksByNumber_LPerfectPew_Row_ : Cond.fieldLink RX0 38 "PerfectPew$Displacer" "ranksByNumber" "LPerfectPew$Row;" ∈ wsX0_place := by decide +kernel
theorem m_X0_place_Cond_fieldLink_RX0_32_PerfectPew_Displacer_numbers_LPerfectPew_Row_ : Cond.fieldLink RX0 32 "PerfectPew$Displacer" "numbers" "LPerfectPew$Row;" ∈ wsX0_place := by decide +kernel
theorem m_X0_place_Cond_initialized_yX6_set_cls : Cond.initialized yX6_set.cls ∈ wsX0_place := by decide +kernel
theorem m_X0_place_Cond_instanceMethod_yX6_set : Cond.instanceMethod yX6_set ∈ wsX0_place := by decide +kernel
theorem m_X0_place_Cond_selects_RX6_yX6_set_yX6_set : Cond.selects RX6 yX6_set yX6_set ∈ wsX0_place := by decide +kernel
theorem m_X0_place_Cond_initialized_yX6_get_cls : Cond.initialized yX6_get.cls ∈ wsX0_place := by decide +kernel
theorem m_X0_place_Cond_instanceMethod_yX6_get : Cond.instanceMethod yX6_get ∈ wsX0_place := by decide +kernel
theorem m_X0_place_Cond_selects_RX6_yX6_get_yX6_get : Cond.selects RX6 yX6_get yX6_get ∈ wsX0_place := by decide +kernel
theorem m_X0_place_Cond_initialized_yX2_memberAt_cls : Cond.initialized yX2_memberAt.cls ∈ wsX0_place := by decide +kernel
theorem m_X0_place_Cond_instanceMethod_yX2_memberAt : Cond.instanceMethod yX2_memberAt ∈ wsX0_place := by decide +kernel
theorem m_X0_place_Cond_selects_RX2_yX2_memberAt_yX2_memberAt : Cond.selects RX2 yX2_memberAt yX2_memberAt ∈ wsX0_place := by decide +kernel
theorem m_X0_place_Cond_initialized_yX2_endOf_cls : Cond.initialized yX2_endOf.cls ∈ wsX0_place := by decide +kernel
theorem m_X0_place_Cond_instanceMethod_yX2_endOf : Cond.instanceMethod yX2_endOf ∈ wsX0_place := by decide +kernel
theorem m_X0_place_Cond_selects_RX2_yX2_endOf_yX2_endOf : Cond.selects RX2 yX2_endOf yX2_endOf ∈ wsX0_place := by decide +kernel
theorem m_X0_place_Cond_initialized_yX2_beginOf_cls : Cond.initialized yX2_beginOf.cls ∈ wsX0_place := by decide +kernel
theorem m_X0_place_Cond_instanceMethod_yX2_beginOf : Cond.instanceMethod yX2_beginOf ∈ wsX0_place := by decide +kernel
theorem m_X0_place_Cond_selects_RX2_yX2_beginOf_yX2_beginOf : Cond.selects RX2 yX2_beginOf yX2_beginOf ∈ wsX0_place := by decide +kernel
set_option maxRecDepth 100000 in
set_option maxHeartbeats 4000000 in
theorem c_X0_place (l : Launch) (G : va_G) (cI cJ : ClassId) (ad : Nat → Nat) (a0 a1 a2 a4 a5 a6 a7 a8 a9 a10 a11 a12 a13 a14 a16 a17 : Nat) (x_keyCount : Int32) (x_bucketCount : Int32) (x_seed : Int32) (x_ranksByBucket_thingCount : Int32) (x_ranksByBucket_groupCount : Int32) (f_ranksByBucket_begins : Nat → Int32) (f_ranksByBucket_members : Nat → Int32) (f_starts : Nat → Int32) (f_steps : Nat → Int32) (f_numbers : Nat → Int32) (f_ranksByNumber : Nat → Int32) (i1 : Int32) (i2 : Int32) (N : Nat) (x : (Int32 × (Nat → Int32) × (Nat → Int32))) (hF0 : F_X0_place N x_keyCount f_ranksByBucket_begins f_ranksByBucket_members f_starts f_steps f_numbers f_ranksByNumber i1 i2 = some x) : kk_I l yX0_place wsX0_place 3 0 0 66 [.ref a0, .int i1, .int i2] G cI cJ ad [(a0, .inr (0, [.ref a1, .ref a8, .ref a10, .ref a12, .ref a14, .ref a16, .int x_keyCount, .int x_bucketCount, .int x_seed])), (a1, .inr (2, [.ref a2, .ref a4, .ref a6, .int x_ranksByBucket_thingCount, .int x_ranksByBucket_groupCount])), (a4, .inr (6, [.ref a5])), (a5, .inl (cI, 121, .inl f_ranksByBucket_begins)), (a6, .inr (6, [.ref a7])), (a7, .inl (cI, 120, .inl f_ranksByBucket_members)), (a8, .inr (6, [.ref a9])), (a9, .inl (cI, 120, .inl f_starts)), (a10, .inr (6, [.ref a11])), (a11, .inl (cI, 120, .inl f_steps)), (a12, .inr (6, [.ref a13])), (a13, .inl (cI, 120, .inl f_numbers)), (a16, .inr (6, [.ref a17])), (a17, .inl (cI, 120, .inl f_ranksByNumber))] x.1 [(a0, .inr (0, [.ref a1, .ref a8, .ref a10, .ref a12, .ref a14, .ref a16, .int x_keyCount, .int x_bucketCount, .int x_seed])), (a1, .inr (2, [.ref a2, .ref a4, .ref a6, .int x_ranksByBucket_thingCount, .int x_ranksByBucket_groupCount])), (a4, .inr (6, [.ref a5])), (a5, .inl (cI, 121, .inl f_ranksByBucket_begins)), (a6, .inr (6, [.ref a7])), (a7, .inl (cI, 120, .inl f_ranksByBucket_members)), (a8, .inr (6, [.ref a9])), (a9, .inl (cI, 120, .inl f_starts)), (a10, .inr (6, [.ref a11])), (a11, .inl (cI, 120, .inl f_steps)), (a12, .inr (6, [.ref a13])), (a13, .inl (cI, 120, .inl x.2.1)), (a16, .inr (6, [.ref a17])), (a17, .inl (cI, 120, .inl x.2.2))] := by
  refine kk_ofZ (cc := cX0_place) (maxL := 8) (by decide) rfl (Nat.le_of_ble_eq_true rfl) ?_
  intro p e s m below meth c A Q ls H locs hx hb hml hown hts hE hw hl hret
  have F : kk_at p m c cX0_place 8 s _ wsX0_place RX0 G cI cJ ad A := ⟨⟨hx, hb, hml, hown, hts⟩, hE⟩
  have hl : lv_has ls 8 [(0, .ref a0), (1, .int i1), (2, .int i2)] := hl
  unfold F_X0_place at hF0
  have hJ1 : ∀ (f_numbers_1 : Nat → Int32) (f_ranksByNumber_1 : Nat → Int32), J_X0_place_99 N f_numbers_1 f_ranksByNumber_1 = some x → ∀ (H : Heap) (locs : List Loc) (ls : Array Slot), kk_wd G A s.heap [(a0, .inr (0, [.ref a1, .ref a8, .ref a10, .ref a12, .ref a14, .ref a16, .int x_keyCount, .int x_bucketCount, .int x_seed])), (a1, .inr (2, [.ref a2, .ref a4, .ref a6, .int x_ranksByBucket_thingCount, .int x_ranksByBucket_groupCount])), (a4, .inr (6, [.ref a5])), (a5, .inl (cI, 121, .inl f_ranksByBucket_begins)), (a6, .inr (6, [.ref a7])), (a7, .inl (cI, 120, .inl f_ranksByBucket_members)), (a8, .inr (6, [.ref a9])), (a9, .inl (cI, 120, .inl f_starts)), (a10, .inr (6, [.ref a11])), (a11, .inl (cI, 120, .inl f_steps)), (a12, .inr (6, [.ref a13])), (a13, .inl (cI, 120, .inl f_numbers_1)), (a16, .inr (6, [.ref a17])), (a17, .inl (cI, 120, .inl f_ranksByNumber_1))] H locs → lv_has ls 8 [] → W p l e (kk_rm 3 0 0 66) s m ([.ref a0, .int i1, .int i2] : List Value).toArray below meth c H locs 0 0 Q (F0 m 99 ls []) := by
    intro f_numbers_1 f_ranksByNumber_1 hF0 H locs ls hw hl
    unfold J_X0_place_99 at hF0
    refine lv_iconst (v := 1) hx hb dX0_place_99 (by decide) ?_
    have hy := Option.some.inj hF0
    subst hy
    exact hret dX0_place_100 (by decide) (by decide) (Or.inr rfl) hw
  have hJ2 : ∀ (f_numbers_2 : Nat → Int32) (f_ranksByNumber_2 : Nat → Int32) (i3_2 : Int32) (i5_2 : Int32), J_X0_place_62 N f_ranksByBucket_members f_numbers_2 f_ranksByNumber_2 i3_2 i5_2 = some x → ∀ (H : Heap) (locs : List Loc) (ls : Array Slot), kk_wd G A s.heap [(a0, .inr (0, [.ref a1, .ref a8, .ref a10, .ref a12, .ref a14, .ref a16, .int x_keyCount, .int x_bucketCount, .int x_seed])), (a1, .inr (2, [.ref a2, .ref a4, .ref a6, .int x_ranksByBucket_thingCount, .int x_ranksByBucket_groupCount])), (a4, .inr (6, [.ref a5])), (a5, .inl (cI, 121, .inl f_ranksByBucket_begins)), (a6, .inr (6, [.ref a7])), (a7, .inl (cI, 120, .inl f_ranksByBucket_members)), (a8, .inr (6, [.ref a9])), (a9, .inl (cI, 120, .inl f_starts)), (a10, .inr (6, [.ref a11])), (a11, .inl (cI, 120, .inl f_steps)), (a12, .inr (6, [.ref a13])), (a13, .inl (cI, 120, .inl f_numbers_2)), (a16, .inr (6, [.ref a17])), (a17, .inl (cI, 120, .inl f_ranksByNumber_2))] H locs → lv_has ls 8 [(0, .ref a0), (3, .int i3_2), (5, .int i5_2)] → W p l e (kk_rm 3 0 0 66) s m ([.ref a0, .int i1, .int i2] : List Value).toArray below meth c H locs 0 0 Q (F0 m 62 ls []) := by
    intro f_numbers_2 f_ranksByNumber_2 i3_2 i5_2 hF0 H locs ls hw hl
    unfold J_X0_place_62 at hF0
    refine lv_aload_n hx hb dX0_place_62 rfl (lv_at hl 0 rfl) ?_
    refine lv_iload_n hx hb dX0_place_63 rfl (lv_at hl 1 rfl) ?_
    refine lv_iload hx hb dX0_place_64 (lv_at hl 2 rfl) ?_
    obtain ⟨v3, ev3, hF0⟩ := kk_bind hF0
    refine kk_callV 0 0 hw (kk_runV (As := [.int i3_2, .int i5_2]) (rest := []) F hw hl.1 (c_X0_takeBack l G cI cJ ad a0 a1 a2 a4 a6 a7 a8 a10 a12 a13 a14 a16 a17 x_keyCount x_bucketCount x_seed x_ranksByBucket_thingCount x_ranksByBucket_groupCount f_ranksByBucket_members f_numbers_2 f_ranksByNumber_2 i3_2 i5_2 N v3 ev3 H.size) gX0_place_X0_takeBack rfl ⟨rfl, md_X0_takeBack⟩ ⟨Nat.le_of_ble_eq_true rfl, Nat.le_of_ble_eq_true rfl⟩ ⟨Nat.le_of_ble_eq_true rfl, Nat.le_of_ble_eq_true rfl⟩ 0 0 rfl rfl rfl rfl (Nat.le_of_ble_eq_true rfl) dX0_place_66) ⟨rfl, rfl⟩ [0, 1, 4, 5, 10, 11, 12, 13] (by decide) rfl rfl (fun H locs hw => ?_)
    have hw : kk_wd G A s.heap [(a0, .inr (0, [.ref a1, .ref a8, .ref a10, .ref a12, .ref a14, .ref a16, .int x_keyCount, .int x_bucketCount, .int x_seed])), (a1, .inr (2, [.ref a2, .ref a4, .ref a6, .int x_ranksByBucket_thingCount, .int x_ranksByBucket_groupCount])), (a4, .inr (6, [.ref a5])), (a5, .inl (cI, 121, .inl f_ranksByBucket_begins)), (a6, .inr (6, [.ref a7])), (a7, .inl (cI, 120, .inl f_ranksByBucket_members)), (a8, .inr (6, [.ref a9])), (a9, .inl (cI, 120, .inl f_starts)), (a10, .inr (6, [.ref a11])), (a11, .inl (cI, 120, .inl f_steps)), (a12, .inr (6, [.ref a13])), (a13, .inl (cI, 120, .inl f_numbers_2)), (a16, .inr (6, [.ref a17])), (a17, .inl (cI, 120, .inl v3))] H locs := hw
    refine lv_iconst (v := 0) hx hb dX0_place_69 (by decide) ?_
    have hy := Option.some.inj hF0
    subst hy
    exact hret dX0_place_70 (by decide) (by decide) (Or.inl rfl) hw
  refine lv_aload_n hx hb dX0_place_0 rfl (lv_at hl 0 rfl) ?_
  refine kk_get (T := TX0) F hw ui_X0_place_X0 0 rfl rfl 0 (by decide) m_X0_place_Cond_fieldLink_RX0_14_PerfectPew_Displacer_ranksByBucket_LPerfectPew_Groups_ rfl dX0_place_1 ?_
  refine lv_iload_n hx hb dX0_place_4 rfl (lv_at hl 1 rfl) ?_
  obtain ⟨v4, ev4, hF0⟩ := kk_bind hF0
  refine kk_callI 0 0 hw (kk_runN (As := [.int i1]) (rest := []) F hw hl.1 (c_X2_beginOf l G cI cJ ad a1 a2 a4 a5 a6 x_ranksByBucket_thingCount x_ranksByBucket_groupCount 121 f_ranksByBucket_begins i1 N v4 ev4 H.size) gX0_place_X2_beginOf_n125 rfl nl_41 m_X0_place_Cond_initialized_yX2_beginOf_cls m_X0_place_Cond_instanceMethod_yX2_beginOf m_X0_place_Cond_selects_RX2_yX2_beginOf_yX2_beginOf md_X2_beginOf ⟨Nat.le_of_ble_eq_true rfl, Nat.le_of_ble_eq_true rfl⟩ ⟨Nat.le_of_ble_eq_true rfl, Nat.le_of_ble_eq_true rfl⟩ 1 2 rfl rfl rfl rfl (Nat.le_of_ble_eq_true rfl) dX0_place_5) ⟨rfl, rfl⟩ [1, 2, 3] (by decide) rfl rfl (fun H locs hw => ?_)
  have hw : kk_wd G A s.heap [(a0, .inr (0, [.ref a1, .ref a8, .ref a10, .ref a12, .ref a14, .ref a16, .int x_keyCount, .int x_bucketCount, .int x_seed])), (a1, .inr (2, [.ref a2, .ref a4, .ref a6, .int x_ranksByBucket_thingCount, .int x_ranksByBucket_groupCount])), (a4, .inr (6, [.ref a5])), (a5, .inl (cI, 121, .inl f_ranksByBucket_begins)), (a6, .inr (6, [.ref a7])), (a7, .inl (cI, 120, .inl f_ranksByBucket_members)), (a8, .inr (6, [.ref a9])), (a9, .inl (cI, 120, .inl f_starts)), (a10, .inr (6, [.ref a11])), (a11, .inl (cI, 120, .inl f_steps)), (a12, .inr (6, [.ref a13])), (a13, .inl (cI, 120, .inl f_numbers)), (a16, .inr (6, [.ref a17])), (a17, .inl (cI, 120, .inl f_ranksByNumber))] H locs := hw
  refine lv_istore_n (lv' := [(3, .int v4), (0, .ref a0), (1, .int i1), (2, .int i2)]) hx hb dX0_place_8 rfl hl (by decide) rfl (fun ls hl => ?_)
  refine lv_aload_n hx hb dX0_place_9 rfl (lv_at hl 1 rfl) ?_
  refine kk_get (T := TX0) F hw ui_X0_place_X0 0 rfl rfl 0 (by decide) m_X0_place_Cond_fieldLink_RX0_14_PerfectPew_Displacer_ranksByBucket_LPerfectPew_Groups_ rfl dX0_place_10 ?_
  refine lv_iload_n hx hb dX0_place_13 rfl (lv_at hl 2 rfl) ?_
  obtain ⟨v5, ev5, hF0⟩ := kk_bind hF0
  refine kk_callI 0 0 hw (kk_runN (As := [.int i1]) (rest := []) F hw hl.1 (c_X2_endOf l G cI cJ ad a1 a2 a4 a5 a6 x_ranksByBucket_thingCount x_ranksByBucket_groupCount 121 f_ranksByBucket_begins i1 N v5 ev5 H.size) gX0_place_X2_endOf_n128 rfl nl_42 m_X0_place_Cond_initialized_yX2_endOf_cls m_X0_place_Cond_instanceMethod_yX2_endOf m_X0_place_Cond_selects_RX2_yX2_endOf_yX2_endOf md_X2_endOf ⟨Nat.le_of_ble_eq_true rfl, Nat.le_of_ble_eq_true rfl⟩ ⟨Nat.le_of_ble_eq_true rfl, Nat.le_of_ble_eq_true rfl⟩ 1 2 rfl rfl rfl rfl (Nat.le_of_ble_eq_true rfl) dX0_place_14) ⟨rfl, rfl⟩ [1, 2, 3] (by decide) rfl rfl (fun H locs hw => ?_)
  have hw : kk_wd G A s.heap [(a0, .inr (0, [.ref a1, .ref a8, .ref a10, .ref a12, .ref a14, .ref a16, .int x_keyCount, .int x_bucketCount, .int x_seed])), (a1, .inr (2, [.ref a2, .ref a4, .ref a6, .int x_ranksByBucket_thingCount, .int x_ranksByBucket_groupCount])), (a4, .inr (6, [.ref a5])), (a5, .inl (cI, 121, .inl f_ranksByBucket_begins)), (a6, .inr (6, [.ref a7])), (a7, .inl (cI, 120, .inl f_ranksByBucket_members)), (a8, .inr (6, [.ref a9])), (a9, .inl (cI, 120, .inl f_starts)), (a10, .inr (6, [.ref a11])), (a11, .inl (cI, 120, .inl f_steps)), (a12, .inr (6, [.ref a13])), (a13, .inl (cI, 120, .inl f_numbers)), (a16, .inr (6, [.ref a17])), (a17, .inl (cI, 120, .inl f_ranksByNumber))] H locs := hw
  refine lv_istore (lv' := [(4, .int v5), (3, .int v4), (0, .ref a0), (1, .int i1), (2, .int i2)]) hx hb dX0_place_17 hl (by decide) rfl (fun ls hl => ?_)
  refine lv_iload_n hx hb dX0_place_19 rfl (lv_at hl 1 rfl) ?_
  refine lv_istore (lv' := [(5, .int v4), (4, .int v5), (3, .int v4), (0, .ref a0), (1, .int i1), (2, .int i2)]) hx hb dX0_place_20 hl (by decide) rfl (fun ls hl => ?_)
  obtain ⟨z6, hz9, hF0⟩ := kk_bind hF0
  have hL9 : ∀ (n9 : Nat) (f_numbers_9 : Nat → Int32) (f_ranksByNumber_9 : Nat → Int32) (i5_9 : Int32), kk_iter (fun (σ : ((Nat → Int32) × (Nat → Int32) × Int32)) => L_X0_place_22 N x_keyCount f_ranksByBucket_members f_starts f_steps i2 v5 σ.1 σ.2.1 σ.2.2) n9 (f_numbers_9, f_ranksByNumber_9, i5_9) = some z6 → ∀ (H : Heap) (locs : List Loc) (ls : Array Slot), kk_wd G A s.heap [(a0, .inr (0, [.ref a1, .ref a8, .ref a10, .ref a12, .ref a14, .ref a16, .int x_keyCount, .int x_bucketCount, .int x_seed])), (a1, .inr (2, [.ref a2, .ref a4, .ref a6, .int x_ranksByBucket_thingCount, .int x_ranksByBucket_groupCount])), (a4, .inr (6, [.ref a5])), (a5, .inl (cI, 121, .inl f_ranksByBucket_begins)), (a6, .inr (6, [.ref a7])), (a7, .inl (cI, 120, .inl f_ranksByBucket_members)), (a8, .inr (6, [.ref a9])), (a9, .inl (cI, 120, .inl f_starts)), (a10, .inr (6, [.ref a11])), (a11, .inl (cI, 120, .inl f_steps)), (a12, .inr (6, [.ref a13])), (a13, .inl (cI, 120, .inl f_numbers_9)), (a16, .inr (6, [.ref a17])), (a17, .inl (cI, 120, .inl f_ranksByNumber_9))] H locs → lv_has ls 8 [(0, .ref a0), (2, .int i2), (3, .int v4), (4, .int v5), (5, .int i5_9)] → W p l e (kk_rm 3 0 0 66) s m ([.ref a0, .int i1, .int i2] : List Value).toArray below meth c H locs 0 0 Q (F0 m 22 ls []) := by
    intro n9
    induction n9 with
    | zero => intro f_numbers_9 f_ranksByNumber_9 i5_9 h; exact kk_iter0 h
    | succ n9 ih9 =>
      intro f_numbers_9 f_ranksByNumber_9 i5_9 hq H locs ls hw hl
      obtain ⟨y9, hF1, hI1⟩ := kk_iterS hq
      have hF1 : L_X0_place_22 N x_keyCount f_ranksByBucket_members f_starts f_steps i2 v5 f_numbers_9 f_ranksByNumber_9 i5_9 = some y9 := hF1
      unfold L_X0_place_22 at hF1
      refine lv_iload hx hb dX0_place_22 (lv_at hl 4 rfl) ?_
      refine lv_iload hx hb dX0_place_24 (lv_at hl 3 rfl) ?_
      refine lv_icmp_ge (tgt := 99) hx hb dX0_place_26 (by decide) (fun c10 => ?_) (fun c10 => ?_)
      · have hF1 := (if_pos c10).symm.trans hF1
        have hy := Option.some.inj hF1
        subst hy
        have hz := Option.some.inj hI1
        subst hz
        exact hJ1 f_numbers_9 f_ranksByNumber_9 hF0 _ _ _ hw (lv_sub hl [] rfl)
      · have hF1 := (if_neg c10).symm.trans hF1
        refine lv_aload_n hx hb dX0_place_29 rfl (lv_at hl 0 rfl) ?_
        refine kk_get (T := TX0) F hw ui_X0_place_X0 0 rfl rfl 0 (by decide) m_X0_place_Cond_fieldLink_RX0_14_PerfectPew_Displacer_ranksByBucket_LPerfectPew_Groups_ rfl dX0_place_30 ?_
        refine lv_iload hx hb dX0_place_33 (lv_at hl 4 rfl) ?_
        obtain ⟨v11, ev11, hF1⟩ := kk_bind hF1
        refine kk_callI 0 0 hw (kk_runN (As := [.int i5_9]) (rest := []) F hw hl.1 (c_X2_memberAt l G cI cJ ad a1 a2 a4 a6 a7 x_ranksByBucket_thingCount x_ranksByBucket_groupCount 120 f_ranksByBucket_members i5_9 N v11 ev11 H.size) gX0_place_X2_memberAt_n131 rfl nl_43 m_X0_place_Cond_initialized_yX2_memberAt_cls m_X0_place_Cond_instanceMethod_yX2_memberAt m_X0_place_Cond_selects_RX2_yX2_memberAt_yX2_memberAt md_X2_memberAt ⟨Nat.le_of_ble_eq_true rfl, Nat.le_of_ble_eq_true rfl⟩ ⟨Nat.le_of_ble_eq_true rfl, Nat.le_of_ble_eq_true rfl⟩ 1 2 rfl rfl rfl rfl (Nat.le_of_ble_eq_true rfl) dX0_place_35) ⟨rfl, rfl⟩ [1, 4, 5] (by decide) rfl rfl (fun H locs hw => ?_)
        have hw : kk_wd G A s.heap [(a0, .inr (0, [.ref a1, .ref a8, .ref a10, .ref a12, .ref a14, .ref a16, .int x_keyCount, .int x_bucketCount, .int x_seed])), (a1, .inr (2, [.ref a2, .ref a4, .ref a6, .int x_ranksByBucket_thingCount, .int x_ranksByBucket_groupCount])), (a4, .inr (6, [.ref a5])), (a5, .inl (cI, 121, .inl f_ranksByBucket_begins)), (a6, .inr (6, [.ref a7])), (a7, .inl (cI, 120, .inl f_ranksByBucket_members)), (a8, .inr (6, [.ref a9])), (a9, .inl (cI, 120, .inl f_starts)), (a10, .inr (6, [.ref a11])), (a11, .inl (cI, 120, .inl f_steps)), (a12, .inr (6, [.ref a13])), (a13, .inl (cI, 120, .inl f_numbers_9)), (a16, .inr (6, [.ref a17])), (a17, .inl (cI, 120, .inl f_ranksByNumber_9))] H locs := hw
        refine lv_istore (lv' := [(6, .int v11), (0, .ref a0), (2, .int i2), (3, .int v4), (4, .int v5), (5, .int i5_9)]) hx hb dX0_place_38 hl (by decide) rfl (fun ls hl => ?_)
        refine lv_aload_n hx hb dX0_place_40 rfl (lv_at hl 1 rfl) ?_
        refine lv_iload hx hb dX0_place_41 (lv_at hl 0 rfl) ?_
        refine lv_iload_n hx hb dX0_place_43 rfl (lv_at hl 2 rfl) ?_
        obtain ⟨v12, ev12, hF1⟩ := kk_bind hF1
        refine kk_callI 0 0 hw (kk_runV (As := [.int v11, .int i2]) (rest := []) F hw hl.1 (c_X0_numberWith l G cI cJ ad a0 a1 a8 a9 a10 a11 a12 a14 a16 x_keyCount x_bucketCount x_seed f_starts f_steps v11 i2 N v12 ev12 H.size) gX0_place_X0_numberWith rfl ⟨rfl, md_X0_numberWith⟩ ⟨Nat.le_of_ble_eq_true rfl, Nat.le_of_ble_eq_true rfl⟩ ⟨Nat.le_of_ble_eq_true rfl, Nat.le_of_ble_eq_true rfl⟩ 0 0 rfl rfl rfl rfl (Nat.le_of_ble_eq_true rfl) dX0_place_44) ⟨rfl, rfl⟩ [0, 6, 7, 8, 9] (by decide) rfl rfl (fun H locs hw => ?_)
        have hw : kk_wd G A s.heap [(a0, .inr (0, [.ref a1, .ref a8, .ref a10, .ref a12, .ref a14, .ref a16, .int x_keyCount, .int x_bucketCount, .int x_seed])), (a1, .inr (2, [.ref a2, .ref a4, .ref a6, .int x_ranksByBucket_thingCount, .int x_ranksByBucket_groupCount])), (a4, .inr (6, [.ref a5])), (a5, .inl (cI, 121, .inl f_ranksByBucket_begins)), (a6, .inr (6, [.ref a7])), (a7, .inl (cI, 120, .inl f_ranksByBucket_members)), (a8, .inr (6, [.ref a9])), (a9, .inl (cI, 120, .inl f_starts)), (a10, .inr (6, [.ref a11])), (a11, .inl (cI, 120, .inl f_steps)), (a12, .inr (6, [.ref a13])), (a13, .inl (cI, 120, .inl f_numbers_9)), (a16, .inr (6, [.ref a17])), (a17, .inl (cI, 120, .inl f_ranksByNumber_9))] H locs := hw
        refine lv_istore (lv' := [(7, .int v12), (6, .int v11), (0, .ref a0), (2, .int i2), (3, .int v4), (4, .int v5), (5, .int i5_9)]) hx hb dX0_place_47 hl (by decide) rfl (fun ls hl => ?_)
        refine lv_aload_n hx hb dX0_place_49 rfl (lv_at hl 2 rfl) ?_
        refine kk_get (T := TX0) F hw ui_X0_place_X0 0 rfl rfl 5 (by decide) m_X0_place_Cond_fieldLink_RX0_38_PerfectPew_Displacer_ranksByNumber_LPerfectPew_Row_ rfl dX0_place_50 ?_
        refine lv_iload hx hb dX0_place_53 (lv_at hl 0 rfl) ?_
        obtain ⟨v13, ev13, hF1⟩ := kk_bind hF1
        refine kk_callI 0 0 hw (kk_runN (As := [.int v12]) (rest := []) F hw hl.1 (c_X6_get l G cI cJ ad a16 a17 120 f_ranksByNumber_9 v12 N v13 ev13 H.size) gX0_place_X6_get_n137 rfl nl_44 m_X0_place_Cond_initialized_yX6_get_cls m_X0_place_Cond_instanceMethod_yX6_get m_X0_place_Cond_selects_RX6_yX6_get_yX6_get md_X6_get ⟨Nat.le_of_ble_eq_true rfl, Nat.le_of_ble_eq_true rfl⟩ ⟨Nat.le_of_ble_eq_true rfl, Nat.le_of_ble_eq_true rfl⟩ 12 6 rfl rfl rfl rfl (Nat.le_of_ble_eq_true rfl) dX0_place_55) ⟨rfl, rfl⟩ [12, 13] (by decide) rfl rfl (fun H locs hw => ?_)
        have hw : kk_wd G A s.heap [(a0, .inr (0, [.ref a1, .ref a8, .ref a10, .ref a12, .ref a14, .ref a16, .int x_keyCount, .int x_bucketCount, .int x_seed])), (a1, .inr (2, [.ref a2, .ref a4, .ref a6, .int x_ranksByBucket_thingCount, .int x_ranksByBucket_groupCount])), (a4, .inr (6, [.ref a5])), (a5, .inl (cI, 121, .inl f_ranksByBucket_begins)), (a6, .inr (6, [.ref a7])), (a7, .inl (cI, 120, .inl f_ranksByBucket_members)), (a8, .inr (6, [.ref a9])), (a9, .inl (cI, 120, .inl f_starts)), (a10, .inr (6, [.ref a11])), (a11, .inl (cI, 120, .inl f_steps)), (a12, .inr (6, [.ref a13])), (a13, .inl (cI, 120, .inl f_numbers_9)), (a16, .inr (6, [.ref a17])), (a17, .inl (cI, 120, .inl f_ranksByNumber_9))] H locs := hw
        refine lv_iconst (v := (-1)) hx hb dX0_place_58 (by decide) ?_
        refine lv_icmp_eq (tgt := 71) hx hb dX0_place_59 (by decide) (fun c14 => ?_) (fun c14 => ?_)
        · have hF1 := (if_pos c14).symm.trans hF1
          refine lv_aload_n hx hb dX0_place_71 rfl (lv_at hl 2 rfl) ?_
          refine kk_get (T := TX0) F hw ui_X0_place_X0 0 rfl rfl 5 (by decide) m_X0_place_Cond_fieldLink_RX0_38_PerfectPew_Displacer_ranksByNumber_LPerfectPew_Row_ rfl dX0_place_72 ?_
          refine lv_iload hx hb dX0_place_75 (lv_at hl 0 rfl) ?_
          refine lv_iload hx hb dX0_place_77 (lv_at hl 1 rfl) ?_
          obtain ⟨v15, ev15, hF1⟩ := kk_bind hF1
          refine kk_callV 0 0 hw (kk_runN (As := [.int v12, .int v11]) (rest := []) F hw hl.1 (c_X6_set l G cI cJ ad a16 a17 120 f_ranksByNumber_9 v12 v11 N v15 ev15 H.size) gX0_place_X6_set_n90 rfl nl_37 m_X0_place_Cond_initialized_yX6_set_cls m_X0_place_Cond_instanceMethod_yX6_set m_X0_place_Cond_selects_RX6_yX6_set_yX6_set md_X6_set ⟨Nat.le_of_ble_eq_true rfl, Nat.le_of_ble_eq_true rfl⟩ ⟨Nat.le_of_ble_eq_true rfl, Nat.le_of_ble_eq_true rfl⟩ 12 6 rfl rfl rfl rfl (Nat.le_of_ble_eq_true rfl) dX0_place_79) ⟨rfl, rfl⟩ [12, 13] (by decide) rfl rfl (fun H locs hw => ?_)
          have hw : kk_wd G A s.heap [(a0, .inr (0, [.ref a1, .ref a8, .ref a10, .ref a12, .ref a14, .ref a16, .int x_keyCount, .int x_bucketCount, .int x_seed])), (a1, .inr (2, [.ref a2, .ref a4, .ref a6, .int x_ranksByBucket_thingCount, .int x_ranksByBucket_groupCount])), (a4, .inr (6, [.ref a5])), (a5, .inl (cI, 121, .inl f_ranksByBucket_begins)), (a6, .inr (6, [.ref a7])), (a7, .inl (cI, 120, .inl f_ranksByBucket_members)), (a8, .inr (6, [.ref a9])), (a9, .inl (cI, 120, .inl f_starts)), (a10, .inr (6, [.ref a11])), (a11, .inl (cI, 120, .inl f_steps)), (a12, .inr (6, [.ref a13])), (a13, .inl (cI, 120, .inl f_numbers_9)), (a16, .inr (6, [.ref a17])), (a17, .inl (cI, 120, .inl v15))] H locs := hw
          refine lv_aload_n hx hb dX0_place_82 rfl (lv_at hl 2 rfl) ?_
          refine kk_get (T := TX0) F hw ui_X0_place_X0 0 rfl rfl 3 (by decide) m_X0_place_Cond_fieldLink_RX0_32_PerfectPew_Displacer_numbers_LPerfectPew_Row_ rfl dX0_place_83 ?_
          refine lv_iload hx hb dX0_place_86 (lv_at hl 1 rfl) ?_
          refine lv_iload hx hb dX0_place_88 (lv_at hl 0 rfl) ?_
          obtain ⟨v16, ev16, hF1⟩ := kk_bind hF1
          refine kk_callV 0 0 hw (kk_runN (As := [.int v11, .int v12]) (rest := []) F hw hl.1 (c_X6_set l G cI cJ ad a12 a13 120 f_numbers_9 v11 v12 N v16 ev16 H.size) gX0_place_X6_set_n90 rfl nl_37 m_X0_place_Cond_initialized_yX6_set_cls m_X0_place_Cond_instanceMethod_yX6_set m_X0_place_Cond_selects_RX6_yX6_set_yX6_set md_X6_set ⟨Nat.le_of_ble_eq_true rfl, Nat.le_of_ble_eq_true rfl⟩ ⟨Nat.le_of_ble_eq_true rfl, Nat.le_of_ble_eq_true rfl⟩ 10 6 rfl rfl rfl rfl (Nat.le_of_ble_eq_true rfl) dX0_place_90) ⟨rfl, rfl⟩ [10, 11] (by decide) rfl rfl (fun H locs hw => ?_)
          have hw : kk_wd G A s.heap [(a0, .inr (0, [.ref a1, .ref a8, .ref a10, .ref a12, .ref a14, .ref a16, .int x_keyCount, .int x_bucketCount, .int x_seed])), (a1, .inr (2, [.ref a2, .ref a4, .ref a6, .int x_ranksByBucket_thingCount, .int x_ranksByBucket_groupCount])), (a4, .inr (6, [.ref a5])), (a5, .inl (cI, 121, .inl f_ranksByBucket_begins)), (a6, .inr (6, [.ref a7])), (a7, .inl (cI, 120, .inl f_ranksByBucket_members)), (a8, .inr (6, [.ref a9])), (a9, .inl (cI, 120, .inl f_starts)), (a10, .inr (6, [.ref a11])), (a11, .inl (cI, 120, .inl f_steps)), (a12, .inr (6, [.ref a13])), (a13, .inl (cI, 120, .inl v16)), (a16, .inr (6, [.ref a17])), (a17, .inl (cI, 120, .inl v15))] H locs := hw
          refine lv_iinc (v := (i5_9 + 1)) (lv' := [(5, .int (i5_9 + 1)), (7, .int v12), (6, .int v11), (0, .ref a0), (2, .int i2), (3, .int v4), (4, .int v5)]) hx hb dX0_place_93 hl (k := 6) rfl rfl (by decide) rfl (fun ls hl => ?_)
          refine lv_goto (tgt := 22) hx hb dX0_place_96 (by decide) ?_
          have hy := Option.some.inj hF1
          subst hy
          exact ih9 v16 v15 (i5_9 + 1) hI1 _ _ _ hw (lv_sub hl [3, 4, 5, 6, 0] rfl)
        · have hF1 := (if_neg c14).symm.trans hF1
          have hy := Option.some.inj hF1
          subst hy
          have hz := Option.some.inj hI1
          subst hz
          exact hJ2 f_numbers_9 f_ranksByNumber_9 v4 i5_9 hF0 _ _ _ hw (lv_sub hl [2, 4, 6] rfl)
  exact hL9 N f_numbers f_ranksByNumber v4 hz9 _ _ _ hw (lv_sub hl [3, 5, 2, 1, 0] rfl)
theorem ui_X0_displace_X0 : ∀ w ∈ u_ws RX0 TX0 9, w ∈ wsX0_displace := by decide +kernel
theorem m_X0_displace_Cond_fieldLink_RX0_35_PerfectPew_Displacer_displacements_LPerfectPew_Row_ : Cond.fieldLink RX0 35 "PerfectPew$Displacer" "displacements" "LPerfectPew$Row;" ∈ wsX0_displace := by decide +kernel
theorem m_X0_displace_Cond_initialized_yX6_set_cls : Cond.initialized yX6_set.cls ∈ wsX0_displace := by decide +kernel
theorem m_X0_displace_Cond_instanceMethod_yX6_set : Cond.instanceMethod yX6_set ∈ wsX0_displace := by decide +kernel
theorem m_X0_displace_Cond_selects_RX6_yX6_set_yX6_set : Cond.selects RX6 yX6_set yX6_set ∈ wsX0_displace := by decide +kernel
theorem m_X0_displace_Cond_fieldLink_RX0_47_PerfectPew_Displacer_keyCount_I_ : Cond.fieldLink RX0 47 "PerfectPew$Displacer" "keyCount" "I" ∈ wsX0_displace := by decide +kernel
theorem m_X0_displace_Cond_methodLink_RX0_118_Lib_Math_min_name : Cond.methodLink RX0 118 Lib.Math.min.name ∈ wsX0_displace := by decide +kernel
theorem m_X0_displace_Cond_static_Lib_Math_min_name : Cond.static Lib.Math.min.name ∈ wsX0_displace := by decide +kernel
theorem m_X0_displace_Cond_initialized_java_lang_Math_ : Cond.initialized "java/lang/Math" ∈ wsX0_displace := by decide +kernel
theorem m_X0_displace_Cond_code_Lib_Math_min_name_Lib_Math_min_code_2_some_int_ : Cond.code Lib.Math.min.name Lib.Math.min.code 2 (some .int) ∈ wsX0_displace := by decide +kernel
set_option maxRecDepth 100000 in
set_option maxHeartbeats 4000000 in
theorem c_X0_displace (l : Launch) (G : va_G) (cI cJ : ClassId) (ad : Nat → Nat) (a0 a1 a2 a4 a5 a6 a7 a8 a9 a10 a11 a12 a13 a14 a15 a16 a17 : Nat) (x_keyCount : Int32) (x_bucketCount : Int32) (x_seed : Int32) (x_ranksByBucket_thingCount : Int32) (x_ranksByBucket_groupCount : Int32) (f_ranksByBucket_begins : Nat → Int32) (f_ranksByBucket_members : Nat → Int32) (f_starts : Nat → Int32) (f_steps : Nat → Int32) (f_numbers : Nat → Int32) (f_displacements : Nat → Int32) (f_ranksByNumber : Nat → Int32) (i1 : Int32) (N : Nat) (x : (Int32 × (Nat → Int32) × (Nat → Int32) × (Nat → Int32))) (hF0 : F_X0_displace N x_keyCount f_ranksByBucket_begins f_ranksByBucket_members f_starts f_steps f_numbers f_displacements f_ranksByNumber i1 = some x) : kk_I l yX0_displace wsX0_displace 4 0 0 93 [.ref a0, .int i1] G cI cJ ad [(a0, .inr (0, [.ref a1, .ref a8, .ref a10, .ref a12, .ref a14, .ref a16, .int x_keyCount, .int x_bucketCount, .int x_seed])), (a1, .inr (2, [.ref a2, .ref a4, .ref a6, .int x_ranksByBucket_thingCount, .int x_ranksByBucket_groupCount])), (a4, .inr (6, [.ref a5])), (a5, .inl (cI, 121, .inl f_ranksByBucket_begins)), (a6, .inr (6, [.ref a7])), (a7, .inl (cI, 120, .inl f_ranksByBucket_members)), (a8, .inr (6, [.ref a9])), (a9, .inl (cI, 120, .inl f_starts)), (a10, .inr (6, [.ref a11])), (a11, .inl (cI, 120, .inl f_steps)), (a12, .inr (6, [.ref a13])), (a13, .inl (cI, 120, .inl f_numbers)), (a14, .inr (6, [.ref a15])), (a15, .inl (cI, 120, .inl f_displacements)), (a16, .inr (6, [.ref a17])), (a17, .inl (cI, 120, .inl f_ranksByNumber))] x.1 [(a0, .inr (0, [.ref a1, .ref a8, .ref a10, .ref a12, .ref a14, .ref a16, .int x_keyCount, .int x_bucketCount, .int x_seed])), (a1, .inr (2, [.ref a2, .ref a4, .ref a6, .int x_ranksByBucket_thingCount, .int x_ranksByBucket_groupCount])), (a4, .inr (6, [.ref a5])), (a5, .inl (cI, 121, .inl f_ranksByBucket_begins)), (a6, .inr (6, [.ref a7])), (a7, .inl (cI, 120, .inl f_ranksByBucket_members)), (a8, .inr (6, [.ref a9])), (a9, .inl (cI, 120, .inl f_starts)), (a10, .inr (6, [.ref a11])), (a11, .inl (cI, 120, .inl f_steps)), (a12, .inr (6, [.ref a13])), (a13, .inl (cI, 120, .inl x.2.1)), (a14, .inr (6, [.ref a15])), (a15, .inl (cI, 120, .inl x.2.2.1)), (a16, .inr (6, [.ref a17])), (a17, .inl (cI, 120, .inl x.2.2.2))] := by
  refine kk_ofZ (cc := cX0_displace) (maxL := 4) (by decide) rfl (Nat.le_of_ble_eq_true rfl) ?_
  intro p e s m below meth c A Q ls H locs hx hb hml hown hts hE hw hl hret
  have F : kk_at p m c cX0_displace 4 s _ wsX0_displace RX0 G cI cJ ad A := ⟨⟨hx, hb, hml, hown, hts⟩, hE⟩
  have hl : lv_has ls 4 [(0, .ref a0), (1, .int i1)] := hl
  unfold F_X0_displace at hF0
  have hJ1 : ∀ (f_numbers_1 : Nat → Int32) (f_displacements_1 : Nat → Int32) (f_ranksByNumber_1 : Nat → Int32), J_X0_displace_44 N f_numbers_1 f_displacements_1 f_ranksByNumber_1 = some x → ∀ (H : Heap) (locs : List Loc) (ls : Array Slot), kk_wd G A s.heap [(a0, .inr (0, [.ref a1, .ref a8, .ref a10, .ref a12, .ref a14, .ref a16, .int x_keyCount, .int x_bucketCount, .int x_seed])), (a1, .inr (2, [.ref a2, .ref a4, .ref a6, .int x_ranksByBucket_thingCount, .int x_ranksByBucket_groupCount])), (a4, .inr (6, [.ref a5])), (a5, .inl (cI, 121, .inl f_ranksByBucket_begins)), (a6, .inr (6, [.ref a7])), (a7, .inl (cI, 120, .inl f_ranksByBucket_members)), (a8, .inr (6, [.ref a9])), (a9, .inl (cI, 120, .inl f_starts)), (a10, .inr (6, [.ref a11])), (a11, .inl (cI, 120, .inl f_steps)), (a12, .inr (6, [.ref a13])), (a13, .inl (cI, 120, .inl f_numbers_1)), (a14, .inr (6, [.ref a15])), (a15, .inl (cI, 120, .inl f_displacements_1)), (a16, .inr (6, [.ref a17])), (a17, .inl (cI, 120, .inl f_ranksByNumber_1))] H locs → lv_has ls 4 [] → W p l e (kk_rm 4 0 0 93) s m ([.ref a0, .int i1] : List Value).toArray below meth c H locs 0 0 Q (F0 m 44 ls []) := by
    intro f_numbers_1 f_displacements_1 f_ranksByNumber_1 hF0 H locs ls hw hl
    unfold J_X0_displace_44 at hF0
    refine lv_iconst (v := 0) hx hb dX0_displace_44 (by decide) ?_
    have hy := Option.some.inj hF0
    subst hy
    exact hret dX0_displace_45 (by decide) (by decide) (Or.inl rfl) hw
  have hJ2 : ∀ (f_numbers_2 : Nat → Int32) (f_displacements_2 : Nat → Int32) (f_ranksByNumber_2 : Nat → Int32) (i3_2 : Int32), J_X0_displace_27 N f_numbers_2 f_displacements_2 f_ranksByNumber_2 i1 i3_2 = some x → ∀ (H : Heap) (locs : List Loc) (ls : Array Slot), kk_wd G A s.heap [(a0, .inr (0, [.ref a1, .ref a8, .ref a10, .ref a12, .ref a14, .ref a16, .int x_keyCount, .int x_bucketCount, .int x_seed])), (a1, .inr (2, [.ref a2, .ref a4, .ref a6, .int x_ranksByBucket_thingCount, .int x_ranksByBucket_groupCount])), (a4, .inr (6, [.ref a5])), (a5, .inl (cI, 121, .inl f_ranksByBucket_begins)), (a6, .inr (6, [.ref a7])), (a7, .inl (cI, 120, .inl f_ranksByBucket_members)), (a8, .inr (6, [.ref a9])), (a9, .inl (cI, 120, .inl f_starts)), (a10, .inr (6, [.ref a11])), (a11, .inl (cI, 120, .inl f_steps)), (a12, .inr (6, [.ref a13])), (a13, .inl (cI, 120, .inl f_numbers_2)), (a14, .inr (6, [.ref a15])), (a15, .inl (cI, 120, .inl f_displacements_2)), (a16, .inr (6, [.ref a17])), (a17, .inl (cI, 120, .inl f_ranksByNumber_2))] H locs → lv_has ls 4 [(0, .ref a0), (1, .int i1), (3, .int i3_2)] → W p l e (kk_rm 4 0 0 93) s m ([.ref a0, .int i1] : List Value).toArray below meth c H locs 0 0 Q (F0 m 27 ls []) := by
    intro f_numbers_2 f_displacements_2 f_ranksByNumber_2 i3_2 hF0 H locs ls hw hl
    unfold J_X0_displace_27 at hF0
    refine lv_aload_n hx hb dX0_displace_27 rfl (lv_at hl 0 rfl) ?_
    refine kk_get (T := TX0) F hw ui_X0_displace_X0 0 rfl rfl 4 (by decide) m_X0_displace_Cond_fieldLink_RX0_35_PerfectPew_Displacer_displacements_LPerfectPew_Row_ rfl dX0_displace_28 ?_
    refine lv_iload_n hx hb dX0_displace_31 rfl (lv_at hl 1 rfl) ?_
    refine lv_iload_n hx hb dX0_displace_32 rfl (lv_at hl 2 rfl) ?_
    obtain ⟨v3, ev3, hF0⟩ := kk_bind hF0
    refine kk_callV 0 0 hw (kk_runN (As := [.int i1, .int i3_2]) (rest := []) F hw hl.1 (c_X6_set l G cI cJ ad a14 a15 120 f_displacements_2 i1 i3_2 N v3 ev3 H.size) gX0_displace_X6_set_n90 rfl nl_37 m_X0_displace_Cond_initialized_yX6_set_cls m_X0_displace_Cond_instanceMethod_yX6_set m_X0_displace_Cond_selects_RX6_yX6_set_yX6_set md_X6_set ⟨Nat.le_of_ble_eq_true rfl, Nat.le_of_ble_eq_true rfl⟩ ⟨Nat.le_of_ble_eq_true rfl, Nat.le_of_ble_eq_true rfl⟩ 12 6 rfl rfl rfl rfl (Nat.le_of_ble_eq_true rfl) dX0_displace_33) ⟨rfl, rfl⟩ [12, 13] (by decide) rfl rfl (fun H locs hw => ?_)
    have hw : kk_wd G A s.heap [(a0, .inr (0, [.ref a1, .ref a8, .ref a10, .ref a12, .ref a14, .ref a16, .int x_keyCount, .int x_bucketCount, .int x_seed])), (a1, .inr (2, [.ref a2, .ref a4, .ref a6, .int x_ranksByBucket_thingCount, .int x_ranksByBucket_groupCount])), (a4, .inr (6, [.ref a5])), (a5, .inl (cI, 121, .inl f_ranksByBucket_begins)), (a6, .inr (6, [.ref a7])), (a7, .inl (cI, 120, .inl f_ranksByBucket_members)), (a8, .inr (6, [.ref a9])), (a9, .inl (cI, 120, .inl f_starts)), (a10, .inr (6, [.ref a11])), (a11, .inl (cI, 120, .inl f_steps)), (a12, .inr (6, [.ref a13])), (a13, .inl (cI, 120, .inl f_numbers_2)), (a14, .inr (6, [.ref a15])), (a15, .inl (cI, 120, .inl v3)), (a16, .inr (6, [.ref a17])), (a17, .inl (cI, 120, .inl f_ranksByNumber_2))] H locs := hw
    refine lv_iconst (v := 1) hx hb dX0_displace_36 (by decide) ?_
    have hy := Option.some.inj hF0
    subst hy
    exact hret dX0_displace_37 (by decide) (by decide) (Or.inr rfl) hw
  refine lv_sipush (v := 512) hx hb dX0_displace_0 (by decide) ?_
  refine lv_aload_n hx hb dX0_displace_3 rfl (lv_at hl 0 rfl) ?_
  refine kk_get (T := TX0) F hw ui_X0_displace_X0 0 rfl rfl 6 (by decide) m_X0_displace_Cond_fieldLink_RX0_47_PerfectPew_Displacer_keyCount_I_ rfl dX0_displace_4 ?_
  refine kk_min F hl.1 m_X0_displace_Cond_methodLink_RX0_118_Lib_Math_min_name m_X0_displace_Cond_static_Lib_Math_min_name m_X0_displace_Cond_initialized_java_lang_Math_ m_X0_displace_Cond_code_Lib_Math_min_name_Lib_Math_min_code_2_some_int_ (by decide) (by decide) ⟨by decide, by decide⟩ dX0_displace_7 ?_
  refine lv_istore_n (lv' := [(2, .int (if x_keyCount < 512 then x_keyCount else 512)), (0, .ref a0), (1, .int i1)]) hx hb dX0_displace_10 rfl hl (by decide) rfl (fun ls hl => ?_)
  refine lv_iconst (v := 0) hx hb dX0_displace_11 (by decide) ?_
  refine lv_istore_n (lv' := [(3, .int 0), (2, .int (if x_keyCount < 512 then x_keyCount else 512)), (0, .ref a0), (1, .int i1)]) hx hb dX0_displace_12 rfl hl (by decide) rfl (fun ls hl => ?_)
  obtain ⟨z4, hz7, hF0⟩ := kk_bind hF0
  have hL7 : ∀ (n7 : Nat) (f_numbers_7 : Nat → Int32) (f_ranksByNumber_7 : Nat → Int32) (i3_7 : Int32), kk_iter (fun (σ : ((Nat → Int32) × (Nat → Int32) × Int32)) => L_X0_displace_13 N x_keyCount f_ranksByBucket_begins f_ranksByBucket_members f_starts f_steps i1 (if x_keyCount < 512 then x_keyCount else 512) σ.1 σ.2.1 σ.2.2) n7 (f_numbers_7, f_ranksByNumber_7, i3_7) = some z4 → ∀ (H : Heap) (locs : List Loc) (ls : Array Slot), kk_wd G A s.heap [(a0, .inr (0, [.ref a1, .ref a8, .ref a10, .ref a12, .ref a14, .ref a16, .int x_keyCount, .int x_bucketCount, .int x_seed])), (a1, .inr (2, [.ref a2, .ref a4, .ref a6, .int x_ranksByBucket_thingCount, .int x_ranksByBucket_groupCount])), (a4, .inr (6, [.ref a5])), (a5, .inl (cI, 121, .inl f_ranksByBucket_begins)), (a6, .inr (6, [.ref a7])), (a7, .inl (cI, 120, .inl f_ranksByBucket_members)), (a8, .inr (6, [.ref a9])), (a9, .inl (cI, 120, .inl f_starts)), (a10, .inr (6, [.ref a11])), (a11, .inl (cI, 120, .inl f_steps)), (a12, .inr (6, [.ref a13])), (a13, .inl (cI, 120, .inl f_numbers_7)), (a14, .inr (6, [.ref a15])), (a15, .inl (cI, 120, .inl f_displacements)), (a16, .inr (6, [.ref a17])), (a17, .inl (cI, 120, .inl f_ranksByNumber_7))] H locs → lv_has ls 4 [(0, .ref a0), (1, .int i1), (2, .int (if x_keyCount < 512 then x_keyCount else 512)), (3, .int i3_7)] → W p l e (kk_rm 4 0 0 93) s m ([.ref a0, .int i1] : List Value).toArray below meth c H locs 0 0 Q (F0 m 13 ls []) := by
    intro n7
    induction n7 with
    | zero => intro f_numbers_7 f_ranksByNumber_7 i3_7 h; exact kk_iter0 h
    | succ n7 ih7 =>
      intro f_numbers_7 f_ranksByNumber_7 i3_7 hq H locs ls hw hl
      obtain ⟨y7, hF1, hI1⟩ := kk_iterS hq
      have hF1 : L_X0_displace_13 N x_keyCount f_ranksByBucket_begins f_ranksByBucket_members f_starts f_steps i1 (if x_keyCount < 512 then x_keyCount else 512) f_numbers_7 f_ranksByNumber_7 i3_7 = some y7 := hF1
      unfold L_X0_displace_13 at hF1
      refine lv_iload_n hx hb dX0_displace_13 rfl (lv_at hl 3 rfl) ?_
      refine lv_iload_n hx hb dX0_displace_14 rfl (lv_at hl 2 rfl) ?_
      refine lv_icmp_ge (tgt := 44) hx hb dX0_displace_15 (by decide) (fun c8 => ?_) (fun c8 => ?_)
      · have hF1 := (if_pos c8).symm.trans hF1
        have hy := Option.some.inj hF1
        subst hy
        have hz := Option.some.inj hI1
        subst hz
        exact hJ1 f_numbers_7 f_displacements f_ranksByNumber_7 hF0 _ _ _ hw (lv_sub hl [] rfl)
      · have hF1 := (if_neg c8).symm.trans hF1
        refine lv_aload_n hx hb dX0_displace_18 rfl (lv_at hl 0 rfl) ?_
        refine lv_iload_n hx hb dX0_displace_19 rfl (lv_at hl 1 rfl) ?_
        refine lv_iload_n hx hb dX0_displace_20 rfl (lv_at hl 3 rfl) ?_
        obtain ⟨v9, ev9, hF1⟩ := kk_bind hF1
        refine kk_callI 0 0 hw (kk_runV (As := [.int i1, .int i3_7]) (rest := []) F hw hl.1 (c_X0_place l G cI cJ ad a0 a1 a2 a4 a5 a6 a7 a8 a9 a10 a11 a12 a13 a14 a16 a17 x_keyCount x_bucketCount x_seed x_ranksByBucket_thingCount x_ranksByBucket_groupCount f_ranksByBucket_begins f_ranksByBucket_members f_starts f_steps f_numbers_7 f_ranksByNumber_7 i1 i3_7 N v9 ev9 H.size) gX0_displace_X0_place rfl ⟨rfl, md_X0_place⟩ ⟨Nat.le_of_ble_eq_true rfl, Nat.le_of_ble_eq_true rfl⟩ ⟨Nat.le_of_ble_eq_true rfl, Nat.le_of_ble_eq_true rfl⟩ 0 0 rfl rfl rfl rfl (Nat.le_of_ble_eq_true rfl) dX0_displace_21) ⟨rfl, rfl⟩ [0, 1, 2, 3, 4, 5, 6, 7, 8, 9, 10, 11, 14, 15] (by decide) rfl rfl (fun H locs hw => ?_)
        have hw : kk_wd G A s.heap [(a0, .inr (0, [.ref a1, .ref a8, .ref a10, .ref a12, .ref a14, .ref a16, .int x_keyCount, .int x_bucketCount, .int x_seed])), (a1, .inr (2, [.ref a2, .ref a4, .ref a6, .int x_ranksByBucket_thingCount, .int x_ranksByBucket_groupCount])), (a4, .inr (6, [.ref a5])), (a5, .inl (cI, 121, .inl f_ranksByBucket_begins)), (a6, .inr (6, [.ref a7])), (a7, .inl (cI, 120, .inl f_ranksByBucket_members)), (a8, .inr (6, [.ref a9])), (a9, .inl (cI, 120, .inl f_starts)), (a10, .inr (6, [.ref a11])), (a11, .inl (cI, 120, .inl f_steps)), (a12, .inr (6, [.ref a13])), (a13, .inl (cI, 120, .inl v9.2.1)), (a14, .inr (6, [.ref a15])), (a15, .inl (cI, 120, .inl f_displacements)), (a16, .inr (6, [.ref a17])), (a17, .inl (cI, 120, .inl v9.2.2))] H locs := hw
        refine lv_if_eq (tgt := 38) hx hb dX0_displace_24 (by decide) (fun c10 => ?_) (fun c10 => ?_)
        · have hF1 := (if_pos c10).symm.trans hF1
          refine lv_iinc (v := (i3_7 + 1)) (lv' := [(3, .int (i3_7 + 1)), (0, .ref a0), (1, .int i1), (2, .int (if x_keyCount < 512 then x_keyCount else 512))]) hx hb dX0_displace_38 hl (k := 3) rfl rfl (by decide) rfl (fun ls hl => ?_)
          refine lv_goto (tgt := 13) hx hb dX0_displace_41 (by decide) ?_
          have hy := Option.some.inj hF1
          subst hy
          exact ih7 v9.2.1 v9.2.2 (i3_7 + 1) hI1 _ _ _ hw (lv_sub hl [1, 2, 3, 0] rfl)
        · have hF1 := (if_neg c10).symm.trans hF1
          have hy := Option.some.inj hF1
          subst hy
          have hz := Option.some.inj hI1
          subst hz
          exact hJ2 v9.2.1 f_displacements v9.2.2 i3_7 hF0 _ _ _ hw (lv_sub hl [0, 1, 3] rfl)
  exact hL7 N f_numbers f_ranksByNumber 0 hz7 _ _ _ hw (lv_sub hl [2, 3, 1, 0] rfl)
theorem ui_X0_displaceAll_X0 : ∀ w ∈ u_ws RX0 TX0 9, w ∈ wsX0_displaceAll := by decide +kernel
theorem m_X0_displaceAll_Cond_fieldLink_RX0_35_PerfectPew_Displacer_displacements_LPerfectPew_Row_ : Cond.fieldLink RX0 35 "PerfectPew$Displacer" "displacements" "LPerfectPew$Row;" ∈ wsX0_displaceAll := by decide +kernel
theorem m_X0_displaceAll_Cond_fieldLink_RX0_38_PerfectPew_Displacer_ranksByNumber_LPerfectPew_Row_ : Cond.fieldLink RX0 38 "PerfectPew$Displacer" "ranksByNumber" "LPerfectPew$Row;" ∈ wsX0_displaceAll := by decide +kernel
theorem m_X0_displaceAll_Cond_fieldLink_RX0_54_PerfectPew_Displacer_bucketCount_I_ : Cond.fieldLink RX0 54 "PerfectPew$Displacer" "bucketCount" "I" ∈ wsX0_displaceAll := by decide +kernel
theorem m_X0_displaceAll_Cond_fieldLink_RX0_14_PerfectPew_Displacer_ranksByBucket_LPerfectPew_Groups_ : Cond.fieldLink RX0 14 "PerfectPew$Displacer" "ranksByBucket" "LPerfectPew$Groups;" ∈ wsX0_displaceAll := by decide +kernel
theorem m_X0_displaceAll_Cond_initialized_yX2_sizeOf_cls : Cond.initialized yX2_sizeOf.cls ∈ wsX0_displaceAll := by decide +kernel
theorem m_X0_displaceAll_Cond_instanceMethod_yX2_sizeOf : Cond.instanceMethod yX2_sizeOf ∈ wsX0_displaceAll := by decide +kernel
theorem m_X0_displaceAll_Cond_selects_RX2_yX2_sizeOf_yX2_sizeOf : Cond.selects RX2 yX2_sizeOf yX2_sizeOf ∈ wsX0_displaceAll := by decide +kernel
theorem m_X0_displaceAll_Cond_initialized_yX6_fill_cls : Cond.initialized yX6_fill.cls ∈ wsX0_displaceAll := by decide +kernel
theorem m_X0_displaceAll_Cond_instanceMethod_yX6_fill : Cond.instanceMethod yX6_fill ∈ wsX0_displaceAll := by decide +kernel
theorem m_X0_displaceAll_Cond_selects_RX6_yX6_fill_yX6_fill : Cond.selects RX6 yX6_fill yX6_fill ∈ wsX0_displaceAll := by decide +kernel
set_option maxRecDepth 100000 in
set_option maxHeartbeats 4000000 in
theorem c_X0_displaceAll (l : Launch) (G : va_G) (cI cJ : ClassId) (ad : Nat → Nat) (a0 a1 a2 a4 a5 a6 a7 a8 a9 a10 a11 a12 a13 a14 a15 a16 a17 : Nat) (x_keyCount : Int32) (x_bucketCount : Int32) (x_seed : Int32) (x_ranksByBucket_thingCount : Int32) (x_ranksByBucket_groupCount : Int32) (f_ranksByBucket_begins : Nat → Int32) (f_ranksByBucket_members : Nat → Int32) (f_starts : Nat → Int32) (f_steps : Nat → Int32) (f_numbers : Nat → Int32) (f_displacements : Nat → Int32) (f_ranksByNumber : Nat → Int32) (N : Nat) (x : (Int32 × (Nat → Int32) × (Nat → Int32) × (Nat → Int32))) (hF0 : F_X0_displaceAll N x_keyCount x_bucketCount f_ranksByBucket_begins f_ranksByBucket_members f_starts f_steps f_numbers f_displacements f_ranksByNumber = some x) : kk_I l yX0_displaceAll wsX0_displaceAll 5 0 0 116 [.ref a0] G cI cJ ad [(a0, .inr (0, [.ref a1, .ref a8, .ref a10, .ref a12, .ref a14, .ref a16, .int x_keyCount, .int x_bucketCount, .int x_seed])), (a1, .inr (2, [.ref a2, .ref a4, .ref a6, .int x_ranksByBucket_thingCount, .int x_ranksByBucket_groupCount])), (a4, .inr (6, [.ref a5])), (a5, .inl (cI, 121, .inl f_ranksByBucket_begins)), (a6, .inr (6, [.ref a7])), (a7, .inl (cI, 120, .inl f_ranksByBucket_members)), (a8, .inr (6, [.ref a9])), (a9, .inl (cI, 120, .inl f_starts)), (a10, .inr (6, [.ref a11])), (a11, .inl (cI, 120, .inl f_steps)), (a12, .inr (6, [.ref a13])), (a13, .inl (cI, 120, .inl f_numbers)), (a14, .inr (6, [.ref a15])), (a15, .inl (cI, 120, .inl f_displacements)), (a16, .inr (6, [.ref a17])), (a17, .inl (cI, 120, .inl f_ranksByNumber))] x.1 [(a0, .inr (0, [.ref a1, .ref a8, .ref a10, .ref a12, .ref a14, .ref a16, .int x_keyCount, .int x_bucketCount, .int x_seed])), (a1, .inr (2, [.ref a2, .ref a4, .ref a6, .int x_ranksByBucket_thingCount, .int x_ranksByBucket_groupCount])), (a4, .inr (6, [.ref a5])), (a5, .inl (cI, 121, .inl f_ranksByBucket_begins)), (a6, .inr (6, [.ref a7])), (a7, .inl (cI, 120, .inl f_ranksByBucket_members)), (a8, .inr (6, [.ref a9])), (a9, .inl (cI, 120, .inl f_starts)), (a10, .inr (6, [.ref a11])), (a11, .inl (cI, 120, .inl f_steps)), (a12, .inr (6, [.ref a13])), (a13, .inl (cI, 120, .inl x.2.1)), (a14, .inr (6, [.ref a15])), (a15, .inl (cI, 120, .inl x.2.2.1)), (a16, .inr (6, [.ref a17])), (a17, .inl (cI, 120, .inl x.2.2.2))] := by
  refine kk_ofZ (cc := cX0_displaceAll) (maxL := 3) (by decide) rfl (Nat.le_of_ble_eq_true rfl) ?_
  intro p e s m below meth c A Q ls H locs hx hb hml hown hts hE hw hl hret
  have F : kk_at p m c cX0_displaceAll 3 s _ wsX0_displaceAll RX0 G cI cJ ad A := ⟨⟨hx, hb, hml, hown, hts⟩, hE⟩
  have hl : lv_has ls 3 [(0, .ref a0)] := hl
  unfold F_X0_displaceAll at hF0
  have hJ1 : ∀ (f_numbers_1 : Nat → Int32) (f_displacements_1 : Nat → Int32) (f_ranksByNumber_1 : Nat → Int32), J_X0_displaceAll_69 N f_numbers_1 f_displacements_1 f_ranksByNumber_1 = some x → ∀ (H : Heap) (locs : List Loc) (ls : Array Slot), kk_wd G A s.heap [(a0, .inr (0, [.ref a1, .ref a8, .ref a10, .ref a12, .ref a14, .ref a16, .int x_keyCount, .int x_bucketCount, .int x_seed])), (a1, .inr (2, [.ref a2, .ref a4, .ref a6, .int x_ranksByBucket_thingCount, .int x_ranksByBucket_groupCount])), (a4, .inr (6, [.ref a5])), (a5, .inl (cI, 121, .inl f_ranksByBucket_begins)), (a6, .inr (6, [.ref a7])), (a7, .inl (cI, 120, .inl f_ranksByBucket_members)), (a8, .inr (6, [.ref a9])), (a9, .inl (cI, 120, .inl f_starts)), (a10, .inr (6, [.ref a11])), (a11, .inl (cI, 120, .inl f_steps)), (a12, .inr (6, [.ref a13])), (a13, .inl (cI, 120, .inl f_numbers_1)), (a14, .inr (6, [.ref a15])), (a15, .inl (cI, 120, .inl f_displacements_1)), (a16, .inr (6, [.ref a17])), (a17, .inl (cI, 120, .inl f_ranksByNumber_1))] H locs → lv_has ls 3 [] → W p l e (kk_rm 5 0 0 116) s m ([.ref a0] : List Value).toArray below meth c H locs 0 0 Q (F0 m 69 ls []) := by
    intro f_numbers_1 f_displacements_1 f_ranksByNumber_1 hF0 H locs ls hw hl
    unfold J_X0_displaceAll_69 at hF0
    refine lv_iconst (v := 1) hx hb dX0_displaceAll_69 (by decide) ?_
    have hy := Option.some.inj hF0
    subst hy
    exact hret dX0_displaceAll_70 (by decide) (by decide) (Or.inr rfl) hw
  have hJ2 : ∀ (f_numbers_2 : Nat → Int32) (f_displacements_2 : Nat → Int32) (f_ranksByNumber_2 : Nat → Int32), J_X0_displaceAll_55 N f_numbers_2 f_displacements_2 f_ranksByNumber_2 = some x → ∀ (H : Heap) (locs : List Loc) (ls : Array Slot), kk_wd G A s.heap [(a0, .inr (0, [.ref a1, .ref a8, .ref a10, .ref a12, .ref a14, .ref a16, .int x_keyCount, .int x_bucketCount, .int x_seed])), (a1, .inr (2, [.ref a2, .ref a4, .ref a6, .int x_ranksByBucket_thingCount, .int x_ranksByBucket_groupCount])), (a4, .inr (6, [.ref a5])), (a5, .inl (cI, 121, .inl f_ranksByBucket_begins)), (a6, .inr (6, [.ref a7])), (a7, .inl (cI, 120, .inl f_ranksByBucket_members)), (a8, .inr (6, [.ref a9])), (a9, .inl (cI, 120, .inl f_starts)), (a10, .inr (6, [.ref a11])), (a11, .inl (cI, 120, .inl f_steps)), (a12, .inr (6, [.ref a13])), (a13, .inl (cI, 120, .inl f_numbers_2)), (a14, .inr (6, [.ref a15])), (a15, .inl (cI, 120, .inl f_displacements_2)), (a16, .inr (6, [.ref a17])), (a17, .inl (cI, 120, .inl f_ranksByNumber_2))] H locs → lv_has ls 3 [] → W p l e (kk_rm 5 0 0 116) s m ([.ref a0] : List Value).toArray below meth c H locs 0 0 Q (F0 m 55 ls []) := by
    intro f_numbers_2 f_displacements_2 f_ranksByNumber_2 hF0 H locs ls hw hl
    unfold J_X0_displaceAll_55 at hF0
    refine lv_iconst (v := 0) hx hb dX0_displaceAll_55 (by decide) ?_
    have hy := Option.some.inj hF0
    subst hy
    exact hret dX0_displaceAll_56 (by decide) (by decide) (Or.inl rfl) hw
  refine lv_aload_n hx hb dX0_displaceAll_0 rfl (lv_at hl 0 rfl) ?_
  refine kk_get (T := TX0) F hw ui_X0_displaceAll_X0 0 rfl rfl 4 (by decide) m_X0_displaceAll_Cond_fieldLink_RX0_35_PerfectPew_Displacer_displacements_LPerfectPew_Row_ rfl dX0_displaceAll_1 ?_
  refine lv_iconst (v := 0) hx hb dX0_displaceAll_4 (by decide) ?_
  obtain ⟨v3, ev3, hF0⟩ := kk_bind hF0
  refine kk_callV 0 0 hw (kk_runN (As := [.int 0]) (rest := []) F hw hl.1 (c_X6_fill l G cI cJ ad a14 a15 120 f_displacements 0 N v3 ev3 H.size) gX0_displaceAll_X6_fill_n99 rfl nl_39 m_X0_displaceAll_Cond_initialized_yX6_fill_cls m_X0_displaceAll_Cond_instanceMethod_yX6_fill m_X0_displaceAll_Cond_selects_RX6_yX6_fill_yX6_fill md_X6_fill ⟨Nat.le_of_ble_eq_true rfl, Nat.le_of_ble_eq_true rfl⟩ ⟨Nat.le_of_ble_eq_true rfl, Nat.le_of_ble_eq_true rfl⟩ 12 6 rfl rfl rfl rfl (Nat.le_of_ble_eq_true rfl) dX0_displaceAll_5) ⟨rfl, rfl⟩ [12, 13] (by decide) rfl rfl (fun H locs hw => ?_)
  have hw : kk_wd G A s.heap [(a0, .inr (0, [.ref a1, .ref a8, .ref a10, .ref a12, .ref a14, .ref a16, .int x_keyCount, .int x_bucketCount, .int x_seed])), (a1, .inr (2, [.ref a2, .ref a4, .ref a6, .int x_ranksByBucket_thingCount, .int x_ranksByBucket_groupCount])), (a4, .inr (6, [.ref a5])), (a5, .inl (cI, 121, .inl f_ranksByBucket_begins)), (a6, .inr (6, [.ref a7])), (a7, .inl (cI, 120, .inl f_ranksByBucket_members)), (a8, .inr (6, [.ref a9])), (a9, .inl (cI, 120, .inl f_starts)), (a10, .inr (6, [.ref a11])), (a11, .inl (cI, 120, .inl f_steps)), (a12, .inr (6, [.ref a13])), (a13, .inl (cI, 120, .inl f_numbers)), (a14, .inr (6, [.ref a15])), (a15, .inl (cI, 120, .inl v3)), (a16, .inr (6, [.ref a17])), (a17, .inl (cI, 120, .inl f_ranksByNumber))] H locs := hw
  refine lv_aload_n hx hb dX0_displaceAll_8 rfl (lv_at hl 0 rfl) ?_
  refine kk_get (T := TX0) F hw ui_X0_displaceAll_X0 0 rfl rfl 5 (by decide) m_X0_displaceAll_Cond_fieldLink_RX0_38_PerfectPew_Displacer_ranksByNumber_LPerfectPew_Row_ rfl dX0_displaceAll_9 ?_
  refine lv_iconst (v := (-1)) hx hb dX0_displaceAll_12 (by decide) ?_
  obtain ⟨v4, ev4, hF0⟩ := kk_bind hF0
  refine kk_callV 0 0 hw (kk_runN (As := [.int (-1)]) (rest := []) F hw hl.1 (c_X6_fill l G cI cJ ad a16 a17 120 f_ranksByNumber (-1) N v4 ev4 H.size) gX0_displaceAll_X6_fill_n99 rfl nl_39 m_X0_displaceAll_Cond_initialized_yX6_fill_cls m_X0_displaceAll_Cond_instanceMethod_yX6_fill m_X0_displaceAll_Cond_selects_RX6_yX6_fill_yX6_fill md_X6_fill ⟨Nat.le_of_ble_eq_true rfl, Nat.le_of_ble_eq_true rfl⟩ ⟨Nat.le_of_ble_eq_true rfl, Nat.le_of_ble_eq_true rfl⟩ 14 6 rfl rfl rfl rfl (Nat.le_of_ble_eq_true rfl) dX0_displaceAll_13) ⟨rfl, rfl⟩ [14, 15] (by decide) rfl rfl (fun H locs hw => ?_)
  have hw : kk_wd G A s.heap [(a0, .inr (0, [.ref a1, .ref a8, .ref a10, .ref a12, .ref a14, .ref a16, .int x_keyCount, .int x_bucketCount, .int x_seed])), (a1, .inr (2, [.ref a2, .ref a4, .ref a6, .int x_ranksByBucket_thingCount, .int x_ranksByBucket_groupCount])), (a4, .inr (6, [.ref a5])), (a5, .inl (cI, 121, .inl f_ranksByBucket_begins)), (a6, .inr (6, [.ref a7])), (a7, .inl (cI, 120, .inl f_ranksByBucket_members)), (a8, .inr (6, [.ref a9])), (a9, .inl (cI, 120, .inl f_starts)), (a10, .inr (6, [.ref a11])), (a11, .inl (cI, 120, .inl f_steps)), (a12, .inr (6, [.ref a13])), (a13, .inl (cI, 120, .inl f_numbers)), (a14, .inr (6, [.ref a15])), (a15, .inl (cI, 120, .inl v3)), (a16, .inr (6, [.ref a17])), (a17, .inl (cI, 120, .inl v4))] H locs := hw
  refine lv_aload_n hx hb dX0_displaceAll_16 rfl (lv_at hl 0 rfl) ?_
  obtain ⟨v5, ev5, hF0⟩ := kk_bind hF0
  refine kk_callI 0 0 hw (kk_runV (As := []) (rest := []) F hw hl.1 (c_X0_largestBucket l G cI cJ ad a0 a1 a2 a4 a5 a6 a8 a10 a12 a14 a16 x_keyCount x_bucketCount x_seed x_ranksByBucket_thingCount x_ranksByBucket_groupCount f_ranksByBucket_begins N v5 ev5 H.size) gX0_displaceAll_X0_largestBucket rfl ⟨rfl, md_X0_largestBucket⟩ ⟨Nat.le_of_ble_eq_true rfl, Nat.le_of_ble_eq_true rfl⟩ ⟨Nat.le_of_ble_eq_true rfl, Nat.le_of_ble_eq_true rfl⟩ 0 0 rfl rfl rfl rfl (Nat.le_of_ble_eq_true rfl) dX0_displaceAll_17) ⟨rfl, rfl⟩ [0, 1, 2, 3] (by decide) rfl rfl (fun H locs hw => ?_)
  have hw : kk_wd G A s.heap [(a0, .inr (0, [.ref a1, .ref a8, .ref a10, .ref a12, .ref a14, .ref a16, .int x_keyCount, .int x_bucketCount, .int x_seed])), (a1, .inr (2, [.ref a2, .ref a4, .ref a6, .int x_ranksByBucket_thingCount, .int x_ranksByBucket_groupCount])), (a4, .inr (6, [.ref a5])), (a5, .inl (cI, 121, .inl f_ranksByBucket_begins)), (a6, .inr (6, [.ref a7])), (a7, .inl (cI, 120, .inl f_ranksByBucket_members)), (a8, .inr (6, [.ref a9])), (a9, .inl (cI, 120, .inl f_starts)), (a10, .inr (6, [.ref a11])), (a11, .inl (cI, 120, .inl f_steps)), (a12, .inr (6, [.ref a13])), (a13, .inl (cI, 120, .inl f_numbers)), (a14, .inr (6, [.ref a15])), (a15, .inl (cI, 120, .inl v3)), (a16, .inr (6, [.ref a17])), (a17, .inl (cI, 120, .inl v4))] H locs := hw
  refine lv_istore_n (lv' := [(1, .int v5), (0, .ref a0)]) hx hb dX0_displaceAll_20 rfl hl (by decide) rfl (fun ls hl => ?_)
  obtain ⟨z6, hz9, hF0⟩ := kk_bind hF0
  have hL9 : ∀ (n9 : Nat) (f_numbers_9 : Nat → Int32) (f_displacements_9 : Nat → Int32) (f_ranksByNumber_9 : Nat → Int32) (i1_9 : Int32), kk_iter (fun (σ : ((Nat → Int32) × (Nat → Int32) × (Nat → Int32) × Int32)) => L_X0_displaceAll_21 N x_keyCount x_bucketCount f_ranksByBucket_begins f_ranksByBucket_members f_starts f_steps σ.1 σ.2.1 σ.2.2.1 σ.2.2.2) n9 (f_numbers_9, f_displacements_9, f_ranksByNumber_9, i1_9) = some z6 → ∀ (H : Heap) (locs : List Loc) (ls : Array Slot), kk_wd G A s.heap [(a0, .inr (0, [.ref a1, .ref a8, .ref a10, .ref a12, .ref a14, .ref a16, .int x_keyCount, .int x_bucketCount, .int x_seed])), (a1, .inr (2, [.ref a2, .ref a4, .ref a6, .int x_ranksByBucket_thingCount, .int x_ranksByBucket_groupCount])), (a4, .inr (6, [.ref a5])), (a5, .inl (cI, 121, .inl f_ranksByBucket_begins)), (a6, .inr (6, [.ref a7])), (a7, .inl (cI, 120, .inl f_ranksByBucket_members)), (a8, .inr (6, [.ref a9])), (a9, .inl (cI, 120, .inl f_starts)), (a10, .inr (6, [.ref a11])), (a11, .inl (cI, 120, .inl f_steps)), (a12, .inr (6, [.ref a13])), (a13, .inl (cI, 120, .inl f_numbers_9)), (a14, .inr (6, [.ref a15])), (a15, .inl (cI, 120, .inl f_displacements_9)), (a16, .inr (6, [.ref a17])), (a17, .inl (cI, 120, .inl f_ranksByNumber_9))] H locs → lv_has ls 3 [(0, .ref a0), (1, .int i1_9)] → W p l e (kk_rm 5 0 0 116) s m ([.ref a0] : List Value).toArray below meth c H locs 0 0 Q (F0 m 21 ls []) := by
    intro n9
    induction n9 with
    | zero => intro f_numbers_9 f_displacements_9 f_ranksByNumber_9 i1_9 h; exact kk_iter0 h
    | succ n9 ih9 =>
      intro f_numbers_9 f_displacements_9 f_ranksByNumber_9 i1_9 hq H locs ls hw hl
      obtain ⟨y9, hF1, hI1⟩ := kk_iterS hq
      have hF1 : L_X0_displaceAll_21 N x_keyCount x_bucketCount f_ranksByBucket_begins f_ranksByBucket_members f_starts f_steps f_numbers_9 f_displacements_9 f_ranksByNumber_9 i1_9 = some y9 := hF1
      unfold L_X0_displaceAll_21 at hF1
      have hJ10 : ∀ (f_numbers_10 : Nat → Int32) (f_displacements_10 : Nat → Int32) (f_ranksByNumber_10 : Nat → Int32) (i1_10 : Int32), J_X0_displaceAll_63 N f_numbers_10 f_displacements_10 f_ranksByNumber_10 i1_10 = some y9 → ∀ (H : Heap) (locs : List Loc) (ls : Array Slot), kk_wd G A s.heap [(a0, .inr (0, [.ref a1, .ref a8, .ref a10, .ref a12, .ref a14, .ref a16, .int x_keyCount, .int x_bucketCount, .int x_seed])), (a1, .inr (2, [.ref a2, .ref a4, .ref a6, .int x_ranksByBucket_thingCount, .int x_ranksByBucket_groupCount])), (a4, .inr (6, [.ref a5])), (a5, .inl (cI, 121, .inl f_ranksByBucket_begins)), (a6, .inr (6, [.ref a7])), (a7, .inl (cI, 120, .inl f_ranksByBucket_members)), (a8, .inr (6, [.ref a9])), (a9, .inl (cI, 120, .inl f_starts)), (a10, .inr (6, [.ref a11])), (a11, .inl (cI, 120, .inl f_steps)), (a12, .inr (6, [.ref a13])), (a13, .inl (cI, 120, .inl f_numbers_10)), (a14, .inr (6, [.ref a15])), (a15, .inl (cI, 120, .inl f_displacements_10)), (a16, .inr (6, [.ref a17])), (a17, .inl (cI, 120, .inl f_ranksByNumber_10))] H locs → lv_has ls 3 [(0, .ref a0), (1, .int i1_10)] → W p l e (kk_rm 5 0 0 116) s m ([.ref a0] : List Value).toArray below meth c H locs 0 0 Q (F0 m 63 ls []) := by
        intro f_numbers_10 f_displacements_10 f_ranksByNumber_10 i1_10 hF1 H locs ls hw hl
        unfold J_X0_displaceAll_63 at hF1
        refine lv_iinc (v := (i1_10 + (-1))) (lv' := [(1, .int (i1_10 + (-1))), (0, .ref a0)]) hx hb dX0_displaceAll_63 hl (k := 1) rfl rfl (by decide) rfl (fun ls hl => ?_)
        refine lv_goto (tgt := 21) hx hb dX0_displaceAll_66 (by decide) ?_
        have hy := Option.some.inj hF1
        subst hy
        exact ih9 f_numbers_10 f_displacements_10 f_ranksByNumber_10 (i1_10 + (-1)) hI1 _ _ _ hw (lv_sub hl [1, 0] rfl)
      refine lv_iload_n hx hb dX0_displaceAll_21 rfl (lv_at hl 1 rfl) ?_
      refine lv_if_le (tgt := 69) hx hb dX0_displaceAll_22 (by decide) (fun c11 => ?_) (fun c11 => ?_)
      · have hF1 := (if_pos c11).symm.trans hF1
        have hy := Option.some.inj hF1
        subst hy
        have hz := Option.some.inj hI1
        subst hz
        exact hJ1 f_numbers_9 f_displacements_9 f_ranksByNumber_9 hF0 _ _ _ hw (lv_sub hl [] rfl)
      · have hF1 := (if_neg c11).symm.trans hF1
        refine lv_iconst (v := 0) hx hb dX0_displaceAll_25 (by decide) ?_
        refine lv_istore_n (lv' := [(2, .int 0), (0, .ref a0), (1, .int i1_9)]) hx hb dX0_displaceAll_26 rfl hl (by decide) rfl (fun ls hl => ?_)
        obtain ⟨z12, hz15, hF1⟩ := kk_bind hF1
        have hL15 : ∀ (n15 : Nat) (f_numbers_15 : Nat → Int32) (f_displacements_15 : Nat → Int32) (f_ranksByNumber_15 : Nat → Int32) (i2_15 : Int32), kk_iter (fun (σ : ((Nat → Int32) × (Nat → Int32) × (Nat → Int32) × Int32)) => L_X0_displaceAll_27 N x_keyCount x_bucketCount f_ranksByBucket_begins f_ranksByBucket_members f_starts f_steps i1_9 σ.1 σ.2.1 σ.2.2.1 σ.2.2.2) n15 (f_numbers_15, f_displacements_15, f_ranksByNumber_15, i2_15) = some z12 → ∀ (H : Heap) (locs : List Loc) (ls : Array Slot), kk_wd G A s.heap [(a0, .inr (0, [.ref a1, .ref a8, .ref a10, .ref a12, .ref a14, .ref a16, .int x_keyCount, .int x_bucketCount, .int x_seed])), (a1, .inr (2, [.ref a2, .ref a4, .ref a6, .int x_ranksByBucket_thingCount, .int x_ranksByBucket_groupCount])), (a4, .inr (6, [.ref a5])), (a5, .inl (cI, 121, .inl f_ranksByBucket_begins)), (a6, .inr (6, [.ref a7])), (a7, .inl (cI, 120, .inl f_ranksByBucket_members)), (a8, .inr (6, [.ref a9])), (a9, .inl (cI, 120, .inl f_starts)), (a10, .inr (6, [.ref a11])), (a11, .inl (cI, 120, .inl f_steps)), (a12, .inr (6, [.ref a13])), (a13, .inl (cI, 120, .inl f_numbers_15)), (a14, .inr (6, [.ref a15])), (a15, .inl (cI, 120, .inl f_displacements_15)), (a16, .inr (6, [.ref a17])), (a17, .inl (cI, 120, .inl f_ranksByNumber_15))] H locs → lv_has ls 3 [(0, .ref a0), (1, .int i1_9), (2, .int i2_15)] → W p l e (kk_rm 5 0 0 116) s m ([.ref a0] : List Value).toArray below meth c H locs 0 0 Q (F0 m 27 ls []) := by
          intro n15
          induction n15 with
          | zero => intro f_numbers_15 f_displacements_15 f_ranksByNumber_15 i2_15 h; exact kk_iter0 h
          | succ n15 ih15 =>
            intro f_numbers_15 f_displacements_15 f_ranksByNumber_15 i2_15 hq H locs ls hw hl
            obtain ⟨y15, hF2, hI2⟩ := kk_iterS hq
            have hF2 : L_X0_displaceAll_27 N x_keyCount x_bucketCount f_ranksByBucket_begins f_ranksByBucket_members f_starts f_steps i1_9 f_numbers_15 f_displacements_15 f_ranksByNumber_15 i2_15 = some y15 := hF2
            unfold L_X0_displaceAll_27 at hF2
            have hJ16 : ∀ (f_numbers_16 : Nat → Int32) (f_displacements_16 : Nat → Int32) (f_ranksByNumber_16 : Nat → Int32) (i2_16 : Int32), J_X0_displaceAll_57 N f_numbers_16 f_displacements_16 f_ranksByNumber_16 i2_16 = some y15 → ∀ (H : Heap) (locs : List Loc) (ls : Array Slot), kk_wd G A s.heap [(a0, .inr (0, [.ref a1, .ref a8, .ref a10, .ref a12, .ref a14, .ref a16, .int x_keyCount, .int x_bucketCount, .int x_seed])), (a1, .inr (2, [.ref a2, .ref a4, .ref a6, .int x_ranksByBucket_thingCount, .int x_ranksByBucket_groupCount])), (a4, .inr (6, [.ref a5])), (a5, .inl (cI, 121, .inl f_ranksByBucket_begins)), (a6, .inr (6, [.ref a7])), (a7, .inl (cI, 120, .inl f_ranksByBucket_members)), (a8, .inr (6, [.ref a9])), (a9, .inl (cI, 120, .inl f_starts)), (a10, .inr (6, [.ref a11])), (a11, .inl (cI, 120, .inl f_steps)), (a12, .inr (6, [.ref a13])), (a13, .inl (cI, 120, .inl f_numbers_16)), (a14, .inr (6, [.ref a15])), (a15, .inl (cI, 120, .inl f_displacements_16)), (a16, .inr (6, [.ref a17])), (a17, .inl (cI, 120, .inl f_ranksByNumber_16))] H locs → lv_has ls 3 [(0, .ref a0), (1, .int i1_9), (2, .int i2_16)] → W p l e (kk_rm 5 0 0 116) s m ([.ref a0] : List Value).toArray below meth c H locs 0 0 Q (F0 m 57 ls []) := by
              intro f_numbers_16 f_displacements_16 f_ranksByNumber_16 i2_16 hF2 H locs ls hw hl
              unfold J_X0_displaceAll_57 at hF2
              refine lv_iinc (v := (i2_16 + 1)) (lv' := [(2, .int (i2_16 + 1)), (0, .ref a0), (1, .int i1_9)]) hx hb dX0_displaceAll_57 hl (k := 2) rfl rfl (by decide) rfl (fun ls hl => ?_)
              refine lv_goto (tgt := 27) hx hb dX0_displaceAll_60 (by decide) ?_
              have hy := Option.some.inj hF2
              subst hy
              exact ih15 f_numbers_16 f_displacements_16 f_ranksByNumber_16 (i2_16 + 1) hI2 _ _ _ hw (lv_sub hl [1, 2, 0] rfl)
            refine lv_iload_n hx hb dX0_displaceAll_27 rfl (lv_at hl 2 rfl) ?_
            refine lv_aload_n hx hb dX0_displaceAll_28 rfl (lv_at hl 0 rfl) ?_
            refine kk_get (T := TX0) F hw ui_X0_displaceAll_X0 0 rfl rfl 7 (by decide) m_X0_displaceAll_Cond_fieldLink_RX0_54_PerfectPew_Displacer_bucketCount_I_ rfl dX0_displaceAll_29 ?_
            refine lv_icmp_ge (tgt := 63) hx hb dX0_displaceAll_32 (by decide) (fun c17 => ?_) (fun c17 => ?_)
            · have hF2 := (if_pos c17).symm.trans hF2
              have hy := Option.some.inj hF2
              subst hy
              have hz := Option.some.inj hI2
              subst hz
              exact hJ10 f_numbers_15 f_displacements_15 f_ranksByNumber_15 i1_9 hF1 _ _ _ hw (lv_sub hl [0, 1] rfl)
            · have hF2 := (if_neg c17).symm.trans hF2
              refine lv_aload_n hx hb dX0_displaceAll_35 rfl (lv_at hl 0 rfl) ?_
              refine kk_get (T := TX0) F hw ui_X0_displaceAll_X0 0 rfl rfl 0 (by decide) m_X0_displaceAll_Cond_fieldLink_RX0_14_PerfectPew_Displacer_ranksByBucket_LPerfectPew_Groups_ rfl dX0_displaceAll_36 ?_
              refine lv_iload_n hx hb dX0_displaceAll_39 rfl (lv_at hl 2 rfl) ?_
              obtain ⟨v18, ev18, hF2⟩ := kk_bind hF2
              refine kk_callI 0 0 hw (kk_runN (As := [.int i2_15]) (rest := []) F hw hl.1 (c_X2_sizeOf l G cI cJ ad a1 a2 a4 a5 a6 x_ranksByBucket_thingCount x_ranksByBucket_groupCount 121 f_ranksByBucket_begins i2_15 N v18 ev18 H.size) gX0_displaceAll_X2_sizeOf_n106 rfl nl_40 m_X0_displaceAll_Cond_initialized_yX2_sizeOf_cls m_X0_displaceAll_Cond_instanceMethod_yX2_sizeOf m_X0_displaceAll_Cond_selects_RX2_yX2_sizeOf_yX2_sizeOf md_X2_sizeOf ⟨Nat.le_of_ble_eq_true rfl, Nat.le_of_ble_eq_true rfl⟩ ⟨Nat.le_of_ble_eq_true rfl, Nat.le_of_ble_eq_true rfl⟩ 1 2 rfl rfl rfl rfl (Nat.le_of_ble_eq_true rfl) dX0_displaceAll_40) ⟨rfl, rfl⟩ [1, 2, 3] (by decide) rfl rfl (fun H locs hw => ?_)
              have hw : kk_wd G A s.heap [(a0, .inr (0, [.ref a1, .ref a8, .ref a10, .ref a12, .ref a14, .ref a16, .int x_keyCount, .int x_bucketCount, .int x_seed])), (a1, .inr (2, [.ref a2, .ref a4, .ref a6, .int x_ranksByBucket_thingCount, .int x_ranksByBucket_groupCount])), (a4, .inr (6, [.ref a5])), (a5, .inl (cI, 121, .inl f_ranksByBucket_begins)), (a6, .inr (6, [.ref a7])), (a7, .inl (cI, 120, .inl f_ranksByBucket_members)), (a8, .inr (6, [.ref a9])), (a9, .inl (cI, 120, .inl f_starts)), (a10, .inr (6, [.ref a11])), (a11, .inl (cI, 120, .inl f_steps)), (a12, .inr (6, [.ref a13])), (a13, .inl (cI, 120, .inl f_numbers_15)), (a14, .inr (6, [.ref a15])), (a15, .inl (cI, 120, .inl f_displacements_15)), (a16, .inr (6, [.ref a17])), (a17, .inl (cI, 120, .inl f_ranksByNumber_15))] H locs := hw
              refine lv_iload_n hx hb dX0_displaceAll_43 rfl (lv_at hl 1 rfl) ?_
              refine lv_icmp_ne (tgt := 57) hx hb dX0_displaceAll_44 (by decide) (fun c19 => ?_) (fun c19 => ?_)
              · have hF2 := (if_neg c19).symm.trans hF2
                exact hJ16 f_numbers_15 f_displacements_15 f_ranksByNumber_15 i2_15 hF2 _ _ _ hw (lv_sub hl [0, 1, 2] rfl)
              · have hF2 := (if_pos c19).symm.trans hF2
                refine lv_aload_n hx hb dX0_displaceAll_47 rfl (lv_at hl 0 rfl) ?_
                refine lv_iload_n hx hb dX0_displaceAll_48 rfl (lv_at hl 2 rfl) ?_
                obtain ⟨v20, ev20, hF2⟩ := kk_bind hF2
                refine kk_callI 0 0 hw (kk_runV (As := [.int i2_15]) (rest := []) F hw hl.1 (c_X0_displace l G cI cJ ad a0 a1 a2 a4 a5 a6 a7 a8 a9 a10 a11 a12 a13 a14 a15 a16 a17 x_keyCount x_bucketCount x_seed x_ranksByBucket_thingCount x_ranksByBucket_groupCount f_ranksByBucket_begins f_ranksByBucket_members f_starts f_steps f_numbers_15 f_displacements_15 f_ranksByNumber_15 i2_15 N v20 ev20 H.size) gX0_displaceAll_X0_displace rfl ⟨rfl, md_X0_displace⟩ ⟨Nat.le_of_ble_eq_true rfl, Nat.le_of_ble_eq_true rfl⟩ ⟨Nat.le_of_ble_eq_true rfl, Nat.le_of_ble_eq_true rfl⟩ 0 0 rfl rfl rfl rfl (Nat.le_of_ble_eq_true rfl) dX0_displaceAll_49) ⟨rfl, rfl⟩ [0, 1, 2, 3, 4, 5, 6, 7, 8, 9, 10, 11, 12, 13, 14, 15] (by decide) rfl rfl (fun H locs hw => ?_)
                have hw : kk_wd G A s.heap [(a0, .inr (0, [.ref a1, .ref a8, .ref a10, .ref a12, .ref a14, .ref a16, .int x_keyCount, .int x_bucketCount, .int x_seed])), (a1, .inr (2, [.ref a2, .ref a4, .ref a6, .int x_ranksByBucket_thingCount, .int x_ranksByBucket_groupCount])), (a4, .inr (6, [.ref a5])), (a5, .inl (cI, 121, .inl f_ranksByBucket_begins)), (a6, .inr (6, [.ref a7])), (a7, .inl (cI, 120, .inl f_ranksByBucket_members)), (a8, .inr (6, [.ref a9])), (a9, .inl (cI, 120, .inl f_starts)), (a10, .inr (6, [.ref a11])), (a11, .inl (cI, 120, .inl f_steps)), (a12, .inr (6, [.ref a13])), (a13, .inl (cI, 120, .inl v20.2.1)), (a14, .inr (6, [.ref a15])), (a15, .inl (cI, 120, .inl v20.2.2.1)), (a16, .inr (6, [.ref a17])), (a17, .inl (cI, 120, .inl v20.2.2.2))] H locs := hw
                refine lv_if_ne (tgt := 57) hx hb dX0_displaceAll_52 (by decide) (fun c21 => ?_) (fun c21 => ?_)
                · have hF2 := (if_neg c21).symm.trans hF2
                  exact hJ16 v20.2.1 v20.2.2.1 v20.2.2.2 i2_15 hF2 _ _ _ hw (lv_sub hl [0, 1, 2] rfl)
                · have hF2 := (if_pos c21).symm.trans hF2
                  have hy := Option.some.inj hF2
                  subst hy
                  have hz := Option.some.inj hI2
                  subst hz
                  have hy := Option.some.inj hF1
                  subst hy
                  have hz := Option.some.inj hI1
                  subst hz
                  exact hJ2 v20.2.1 v20.2.2.1 v20.2.2.2 hF0 _ _ _ hw (lv_sub hl [] rfl)
        exact hL15 N f_numbers_9 f_displacements_9 f_ranksByNumber_9 0 hz15 _ _ _ hw (lv_sub hl [1, 2, 0] rfl)
  exact hL9 N f_numbers v3 v4 v5 hz9 _ _ _ hw (lv_sub hl [1, 0] rfl)
theorem ui_X0_settle_X4 : ∀ w ∈ u_ws RX4 TX4 2, w ∈ wsX0_settle := by decide +kernel
theorem ui_X0_settle_X0 : ∀ w ∈ u_ws RX0 TX0 9, w ∈ wsX0_settle := by decide +kernel
theorem m_X0_settle_Cond_fieldLink_RX0_47_PerfectPew_Displacer_keyCount_I_ : Cond.fieldLink RX0 47 "PerfectPew$Displacer" "keyCount" "I" ∈ wsX0_settle := by decide +kernel
theorem m_X0_settle_Cond_fieldLink_RX0_54_PerfectPew_Displacer_bucketCount_I_ : Cond.fieldLink RX0 54 "PerfectPew$Displacer" "bucketCount" "I" ∈ wsX0_settle := by decide +kernel
theorem m_X0_settle_Cond_fieldLink_RX0_57_PerfectPew_Displacer_seed_I_ : Cond.fieldLink RX0 57 "PerfectPew$Displacer" "seed" "I" ∈ wsX0_settle := by decide +kernel
theorem m_X0_settle_Cond_initialized_yX7_dividedUp_cls : Cond.initialized yX7_dividedUp.cls ∈ wsX0_settle := by decide +kernel
theorem m_X0_settle_Cond_static_yX7_dividedUp : Cond.static yX7_dividedUp ∈ wsX0_settle := by decide +kernel
set_option maxRecDepth 100000 in
set_option maxHeartbeats 4000000 in
theorem c_X0_settle (l : Launch) (G : va_G) (cI cJ : ClassId) (ad : Nat → Nat) (a0 a1 a2 a3 a4 a5 a6 a7 a8 a9 a10 a11 a12 a13 a14 a15 a16 a17 b0 b1 b2 : Nat) (x_keyCount : Int32) (x_bucketCount : Int32) (x_seed : Int32) (x_ranksByBucket_thingCount : Int32) (x_ranksByBucket_groupCount : Int32) (f_ranksByBucket_groups : Nat → Int32) (f_ranksByBucket_begins : Nat → Int32) (f_ranksByBucket_members : Nat → Int32) (f_starts : Nat → Int32) (f_steps : Nat → Int32) (f_numbers : Nat → Int32) (f_displacements : Nat → Int32) (f_ranksByNumber : Nat → Int32) (q_x_size : Int32) (q_f_places : Nat → Int32) (i2 : Int32) (N : Nat) (x : (Int32 × Int32 × Int32 × Int32 × Int32 × Int32 × (Nat → Int32) × (Nat → Int32) × (Nat → Int32) × (Nat → Int32) × (Nat → Int32) × (Nat → Int32) × (Nat → Int32) × (Nat → Int32))) (hF0 : F_X0_settle N x_keyCount x_bucketCount x_seed x_ranksByBucket_thingCount x_ranksByBucket_groupCount f_ranksByBucket_groups f_ranksByBucket_begins f_ranksByBucket_members f_starts f_steps f_numbers f_displacements f_ranksByNumber q_x_size q_f_places i2 = some x) : kk_I l yX0_settle wsX0_settle 6 0 0 138 [.ref a0, .ref b0, .int i2] G cI cJ ad [(a0, .inr (0, [.ref a1, .ref a8, .ref a10, .ref a12, .ref a14, .ref a16, .int x_keyCount, .int x_bucketCount, .int x_seed])), (a1, .inr (2, [.ref a2, .ref a4, .ref a6, .int x_ranksByBucket_thingCount, .int x_ranksByBucket_groupCount])), (a2, .inr (6, [.ref a3])), (a3, .inl (cI, 120, .inl f_ranksByBucket_groups)), (a4, .inr (6, [.ref a5])), (a5, .inl (cI, 121, .inl f_ranksByBucket_begins)), (a6, .inr (6, [.ref a7])), (a7, .inl (cI, 120, .inl f_ranksByBucket_members)), (a8, .inr (6, [.ref a9])), (a9, .inl (cI, 120, .inl f_starts)), (a10, .inr (6, [.ref a11])), (a11, .inl (cI, 120, .inl f_steps)), (a12, .inr (6, [.ref a13])), (a13, .inl (cI, 120, .inl f_numbers)), (a14, .inr (6, [.ref a15])), (a15, .inl (cI, 120, .inl f_displacements)), (a16, .inr (6, [.ref a17])), (a17, .inl (cI, 120, .inl f_ranksByNumber)), (b0, .inr (4, [.ref b1, .int q_x_size])), (b1, .inr (6, [.ref b2])), (b2, .inl (cI, 120, .inl q_f_places))] x.1 [(a0, .inr (0, [.ref a1, .ref a8, .ref a10, .ref a12, .ref a14, .ref a16, .int x.2.1, .int x.2.2.1, .int x.2.2.2.1])), (a1, .inr (2, [.ref a2, .ref a4, .ref a6, .int x.2.2.2.2.1, .int x.2.2.2.2.2.1])), (a2, .inr (6, [.ref a3])), (a3, .inl (cI, 120, .inl x.2.2.2.2.2.2.1)), (a4, .inr (6, [.ref a5])), (a5, .inl (cI, 121, .inl x.2.2.2.2.2.2.2.1)), (a6, .inr (6, [.ref a7])), (a7, .inl (cI, 120, .inl x.2.2.2.2.2.2.2.2.1)), (a8, .inr (6, [.ref a9])), (a9, .inl (cI, 120, .inl x.2.2.2.2.2.2.2.2.2.1)), (a10, .inr (6, [.ref a11])), (a11, .inl (cI, 120, .inl x.2.2.2.2.2.2.2.2.2.2.1)), (a12, .inr (6, [.ref a13])), (a13, .inl (cI, 120, .inl x.2.2.2.2.2.2.2.2.2.2.2.1)), (a14, .inr (6, [.ref a15])), (a15, .inl (cI, 120, .inl x.2.2.2.2.2.2.2.2.2.2.2.2.1)), (a16, .inr (6, [.ref a17])), (a17, .inl (cI, 120, .inl x.2.2.2.2.2.2.2.2.2.2.2.2.2)), (b0, .inr (4, [.ref b1, .int q_x_size])), (b1, .inr (6, [.ref b2])), (b2, .inl (cI, 120, .inl q_f_places))] := by
  refine kk_ofZ (cc := cX0_settle) (maxL := 4) (by decide) rfl (Nat.le_of_ble_eq_true rfl) ?_
  intro p e s m below meth c A Q ls H locs hx hb hml hown hts hE hw hl hret
  have F : kk_at p m c cX0_settle 4 s _ wsX0_settle RX0 G cI cJ ad A := ⟨⟨hx, hb, hml, hown, hts⟩, hE⟩
  have hl : lv_has ls 4 [(0, .ref a0), (1, .ref b0), (2, .int i2)] := hl
  unfold F_X0_settle at hF0
  have hJ1 : ∀ (x_keyCount_1 : Int32) (x_bucketCount_1 : Int32) (x_seed_1 : Int32) (x_ranksByBucket_thingCount_1 : Int32) (x_ranksByBucket_groupCount_1 : Int32) (f_ranksByBucket_groups_1 : Nat → Int32) (f_ranksByBucket_begins_1 : Nat → Int32) (f_ranksByBucket_members_1 : Nat → Int32) (f_starts_1 : Nat → Int32) (f_steps_1 : Nat → Int32) (f_numbers_1 : Nat → Int32) (f_displacements_1 : Nat → Int32) (f_ranksByNumber_1 : Nat → Int32), J_X0_settle_53 N x_keyCount_1 x_bucketCount_1 x_seed_1 x_ranksByBucket_thingCount_1 x_ranksByBucket_groupCount_1 f_ranksByBucket_groups_1 f_ranksByBucket_begins_1 f_ranksByBucket_members_1 f_starts_1 f_steps_1 f_numbers_1 f_displacements_1 f_ranksByNumber_1 = some x → ∀ (H : Heap) (locs : List Loc) (ls : Array Slot), kk_wd G A s.heap [(a0, .inr (0, [.ref a1, .ref a8, .ref a10, .ref a12, .ref a14, .ref a16, .int x_keyCount_1, .int x_bucketCount_1, .int x_seed_1])), (a1, .inr (2, [.ref a2, .ref a4, .ref a6, .int x_ranksByBucket_thingCount_1, .int x_ranksByBucket_groupCount_1])), (a2, .inr (6, [.ref a3])), (a3, .inl (cI, 120, .inl f_ranksByBucket_groups_1)), (a4, .inr (6, [.ref a5])), (a5, .inl (cI, 121, .inl f_ranksByBucket_begins_1)), (a6, .inr (6, [.ref a7])), (a7, .inl (cI, 120, .inl f_ranksByBucket_members_1)), (a8, .inr (6, [.ref a9])), (a9, .inl (cI, 120, .inl f_starts_1)), (a10, .inr (6, [.ref a11])), (a11, .inl (cI, 120, .inl f_steps_1)), (a12, .inr (6, [.ref a13])), (a13, .inl (cI, 120, .inl f_numbers_1)), (a14, .inr (6, [.ref a15])), (a15, .inl (cI, 120, .inl f_displacements_1)), (a16, .inr (6, [.ref a17])), (a17, .inl (cI, 120, .inl f_ranksByNumber_1)), (b0, .inr (4, [.ref b1, .int q_x_size])), (b1, .inr (6, [.ref b2])), (b2, .inl (cI, 120, .inl q_f_places))] H locs → lv_has ls 4 [] → W p l e (kk_rm 6 0 0 138) s m ([.ref a0, .ref b0, .int i2] : List Value).toArray below meth c H locs 0 0 Q (F0 m 53 ls []) := by
    intro x_keyCount_1 x_bucketCount_1 x_seed_1 x_ranksByBucket_thingCount_1 x_ranksByBucket_groupCount_1 f_ranksByBucket_groups_1 f_ranksByBucket_begins_1 f_ranksByBucket_members_1 f_starts_1 f_steps_1 f_numbers_1 f_displacements_1 f_ranksByNumber_1 hF0 H locs ls hw hl
    unfold J_X0_settle_53 at hF0
    refine lv_iconst (v := 0) hx hb dX0_settle_53 (by decide) ?_
    have hy := Option.some.inj hF0
    subst hy
    exact hret dX0_settle_54 (by decide) (by decide) (Or.inl rfl) hw
  have hJ2 : ∀ (x_keyCount_2 : Int32) (x_bucketCount_2 : Int32) (x_seed_2 : Int32) (x_ranksByBucket_thingCount_2 : Int32) (x_ranksByBucket_groupCount_2 : Int32) (f_ranksByBucket_groups_2 : Nat → Int32) (f_ranksByBucket_begins_2 : Nat → Int32) (f_ranksByBucket_members_2 : Nat → Int32) (f_starts_2 : Nat → Int32) (f_steps_2 : Nat → Int32) (f_numbers_2 : Nat → Int32) (f_displacements_2 : Nat → Int32) (f_ranksByNumber_2 : Nat → Int32), J_X0_settle_45 N x_keyCount_2 x_bucketCount_2 x_seed_2 x_ranksByBucket_thingCount_2 x_ranksByBucket_groupCount_2 f_ranksByBucket_groups_2 f_ranksByBucket_begins_2 f_ranksByBucket_members_2 f_starts_2 f_steps_2 f_numbers_2 f_displacements_2 f_ranksByNumber_2 = some x → ∀ (H : Heap) (locs : List Loc) (ls : Array Slot), kk_wd G A s.heap [(a0, .inr (0, [.ref a1, .ref a8, .ref a10, .ref a12, .ref a14, .ref a16, .int x_keyCount_2, .int x_bucketCount_2, .int x_seed_2])), (a1, .inr (2, [.ref a2, .ref a4, .ref a6, .int x_ranksByBucket_thingCount_2, .int x_ranksByBucket_groupCount_2])), (a2, .inr (6, [.ref a3])), (a3, .inl (cI, 120, .inl f_ranksByBucket_groups_2)), (a4, .inr (6, [.ref a5])), (a5, .inl (cI, 121, .inl f_ranksByBucket_begins_2)), (a6, .inr (6, [.ref a7])), (a7, .inl (cI, 120, .inl f_ranksByBucket_members_2)), (a8, .inr (6, [.ref a9])), (a9, .inl (cI, 120, .inl f_starts_2)), (a10, .inr (6, [.ref a11])), (a11, .inl (cI, 120, .inl f_steps_2)), (a12, .inr (6, [.ref a13])), (a13, .inl (cI, 120, .inl f_numbers_2)), (a14, .inr (6, [.ref a15])), (a15, .inl (cI, 120, .inl f_displacements_2)), (a16, .inr (6, [.ref a17])), (a17, .inl (cI, 120, .inl f_ranksByNumber_2)), (b0, .inr (4, [.ref b1, .int q_x_size])), (b1, .inr (6, [.ref b2])), (b2, .inl (cI, 120, .inl q_f_places))] H locs → lv_has ls 4 [] → W p l e (kk_rm 6 0 0 138) s m ([.ref a0, .ref b0, .int i2] : List Value).toArray below meth c H locs 0 0 Q (F0 m 45 ls []) := by
    intro x_keyCount_2 x_bucketCount_2 x_seed_2 x_ranksByBucket_thingCount_2 x_ranksByBucket_groupCount_2 f_ranksByBucket_groups_2 f_ranksByBucket_begins_2 f_ranksByBucket_members_2 f_starts_2 f_steps_2 f_numbers_2 f_displacements_2 f_ranksByNumber_2 hF0 H locs ls hw hl
    unfold J_X0_settle_45 at hF0
    refine lv_iconst (v := 1) hx hb dX0_settle_45 (by decide) ?_
    have hy := Option.some.inj hF0
    subst hy
    exact hret dX0_settle_46 (by decide) (by decide) (Or.inr rfl) hw
  refine lv_aload_n hx hb dX0_settle_0 rfl (lv_at hl 0 rfl) ?_
  refine lv_aload_n hx hb dX0_settle_1 rfl (lv_at hl 1 rfl) ?_
  refine kk_getN (T := TX4) F hw ui_X0_settle_X4 18 rfl rfl 1 (by decide) nl_0 rfl dX0_settle_2 ?_
  refine kk_put F hw ui_X0_settle_X0 tyX0 tyX0_ok nmX0 0 rfl rfl 6 (by decide) m_X0_settle_Cond_fieldLink_RX0_47_PerfectPew_Displacer_keyCount_I_ rfl rfl rfl (Nat.le_of_ble_eq_true rfl) dX0_settle_5 (fun H locs hw => ?_)
  have hw : kk_wd G A s.heap [(a0, .inr (0, [.ref a1, .ref a8, .ref a10, .ref a12, .ref a14, .ref a16, .int q_x_size, .int x_bucketCount, .int x_seed])), (a1, .inr (2, [.ref a2, .ref a4, .ref a6, .int x_ranksByBucket_thingCount, .int x_ranksByBucket_groupCount])), (a2, .inr (6, [.ref a3])), (a3, .inl (cI, 120, .inl f_ranksByBucket_groups)), (a4, .inr (6, [.ref a5])), (a5, .inl (cI, 121, .inl f_ranksByBucket_begins)), (a6, .inr (6, [.ref a7])), (a7, .inl (cI, 120, .inl f_ranksByBucket_members)), (a8, .inr (6, [.ref a9])), (a9, .inl (cI, 120, .inl f_starts)), (a10, .inr (6, [.ref a11])), (a11, .inl (cI, 120, .inl f_steps)), (a12, .inr (6, [.ref a13])), (a13, .inl (cI, 120, .inl f_numbers)), (a14, .inr (6, [.ref a15])), (a15, .inl (cI, 120, .inl f_displacements)), (a16, .inr (6, [.ref a17])), (a17, .inl (cI, 120, .inl f_ranksByNumber)), (b0, .inr (4, [.ref b1, .int q_x_size])), (b1, .inr (6, [.ref b2])), (b2, .inl (cI, 120, .inl q_f_places))] H locs := hw
  refine lv_aload_n hx hb dX0_settle_8 rfl (lv_at hl 0 rfl) ?_
  refine lv_aload_n hx hb dX0_settle_9 rfl (lv_at hl 0 rfl) ?_
  refine kk_get (T := TX0) F hw ui_X0_settle_X0 0 rfl rfl 6 (by decide) m_X0_settle_Cond_fieldLink_RX0_47_PerfectPew_Displacer_keyCount_I_ rfl dX0_settle_10 ?_
  refine lv_iload_n hx hb dX0_settle_13 rfl (lv_at hl 2 rfl) ?_
  obtain ⟨v3, ev3, hF0⟩ := kk_bind hF0
  refine kk_callI 0 0 hw (kk_runSN (As := [.int q_x_size, .int i2]) (rest := [.ref a0]) F hw hl.1 (c_X7_dividedUp l G cI cJ ad q_x_size i2 N v3 ev3 H.size) gX0_settle_X7_dividedUp_n50 rfl nl_28 m_X0_settle_Cond_initialized_yX7_dividedUp_cls m_X0_settle_Cond_static_yX7_dividedUp md_X7_dividedUp ⟨Nat.le_of_ble_eq_true rfl, Nat.le_of_ble_eq_true rfl⟩ ⟨Nat.le_of_ble_eq_true rfl, Nat.le_of_ble_eq_true rfl⟩ rfl (Nat.le_of_ble_eq_true rfl) dX0_settle_14) ⟨rfl, rfl⟩ [] (by decide) rfl rfl (fun H locs hw => ?_)
  refine kk_put F hw ui_X0_settle_X0 tyX0 tyX0_ok nmX0 0 rfl rfl 7 (by decide) m_X0_settle_Cond_fieldLink_RX0_54_PerfectPew_Displacer_bucketCount_I_ rfl rfl rfl (Nat.le_of_ble_eq_true rfl) dX0_settle_17 (fun H locs hw => ?_)
  have hw : kk_wd G A s.heap [(a0, .inr (0, [.ref a1, .ref a8, .ref a10, .ref a12, .ref a14, .ref a16, .int q_x_size, .int v3, .int x_seed])), (a1, .inr (2, [.ref a2, .ref a4, .ref a6, .int x_ranksByBucket_thingCount, .int x_ranksByBucket_groupCount])), (a2, .inr (6, [.ref a3])), (a3, .inl (cI, 120, .inl f_ranksByBucket_groups)), (a4, .inr (6, [.ref a5])), (a5, .inl (cI, 121, .inl f_ranksByBucket_begins)), (a6, .inr (6, [.ref a7])), (a7, .inl (cI, 120, .inl f_ranksByBucket_members)), (a8, .inr (6, [.ref a9])), (a9, .inl (cI, 120, .inl f_starts)), (a10, .inr (6, [.ref a11])), (a11, .inl (cI, 120, .inl f_steps)), (a12, .inr (6, [.ref a13])), (a13, .inl (cI, 120, .inl f_numbers)), (a14, .inr (6, [.ref a15])), (a15, .inl (cI, 120, .inl f_displacements)), (a16, .inr (6, [.ref a17])), (a17, .inl (cI, 120, .inl f_ranksByNumber)), (b0, .inr (4, [.ref b1, .int q_x_size])), (b1, .inr (6, [.ref b2])), (b2, .inl (cI, 120, .inl q_f_places))] H locs := hw
  refine lv_iconst (v := 0) hx hb dX0_settle_20 (by decide) ?_
  refine lv_istore_n (lv' := [(3, .int 0), (0, .ref a0), (1, .ref b0), (2, .int i2)]) hx hb dX0_settle_21 rfl hl (by decide) rfl (fun ls hl => ?_)
  obtain ⟨z4, hz7, hF0⟩ := kk_bind hF0
  have hL7 : ∀ (n7 : Nat) (x_seed_7 : Int32) (x_ranksByBucket_thingCount_7 : Int32) (x_ranksByBucket_groupCount_7 : Int32) (f_ranksByBucket_groups_7 : Nat → Int32) (f_ranksByBucket_begins_7 : Nat → Int32) (f_ranksByBucket_members_7 : Nat → Int32) (f_starts_7 : Nat → Int32) (f_steps_7 : Nat → Int32) (f_numbers_7 : Nat → Int32) (f_displacements_7 : Nat → Int32) (f_ranksByNumber_7 : Nat → Int32) (i3_7 : Int32), kk_iter (fun (σ : (Int32 × Int32 × Int32 × (Nat → Int32) × (Nat → Int32) × (Nat → Int32) × (Nat → Int32) × (Nat → Int32) × (Nat → Int32) × (Nat → Int32) × (Nat → Int32) × Int32)) => L_X0_settle_22 N q_x_size v3 q_f_places σ.1 σ.2.1 σ.2.2.1 σ.2.2.2.1 σ.2.2.2.2.1 σ.2.2.2.2.2.1 σ.2.2.2.2.2.2.1 σ.2.2.2.2.2.2.2.1 σ.2.2.2.2.2.2.2.2.1 σ.2.2.2.2.2.2.2.2.2.1 σ.2.2.2.2.2.2.2.2.2.2.1 σ.2.2.2.2.2.2.2.2.2.2.2) n7 (x_seed_7, x_ranksByBucket_thingCount_7, x_ranksByBucket_groupCount_7, f_ranksByBucket_groups_7, f_ranksByBucket_begins_7, f_ranksByBucket_members_7, f_starts_7, f_steps_7, f_numbers_7, f_displacements_7, f_ranksByNumber_7, i3_7) = some z4 → ∀ (H : Heap) (locs : List Loc) (ls : Array Slot), kk_wd G A s.heap [(a0, .inr (0, [.ref a1, .ref a8, .ref a10, .ref a12, .ref a14, .ref a16, .int q_x_size, .int v3, .int x_seed_7])), (a1, .inr (2, [.ref a2, .ref a4, .ref a6, .int x_ranksByBucket_thingCount_7, .int x_ranksByBucket_groupCount_7])), (a2, .inr (6, [.ref a3])), (a3, .inl (cI, 120, .inl f_ranksByBucket_groups_7)), (a4, .inr (6, [.ref a5])), (a5, .inl (cI, 121, .inl f_ranksByBucket_begins_7)), (a6, .inr (6, [.ref a7])), (a7, .inl (cI, 120, .inl f_ranksByBucket_members_7)), (a8, .inr (6, [.ref a9])), (a9, .inl (cI, 120, .inl f_starts_7)), (a10, .inr (6, [.ref a11])), (a11, .inl (cI, 120, .inl f_steps_7)), (a12, .inr (6, [.ref a13])), (a13, .inl (cI, 120, .inl f_numbers_7)), (a14, .inr (6, [.ref a15])), (a15, .inl (cI, 120, .inl f_displacements_7)), (a16, .inr (6, [.ref a17])), (a17, .inl (cI, 120, .inl f_ranksByNumber_7)), (b0, .inr (4, [.ref b1, .int q_x_size])), (b1, .inr (6, [.ref b2])), (b2, .inl (cI, 120, .inl q_f_places))] H locs → lv_has ls 4 [(0, .ref a0), (1, .ref b0), (3, .int i3_7)] → W p l e (kk_rm 6 0 0 138) s m ([.ref a0, .ref b0, .int i2] : List Value).toArray below meth c H locs 0 0 Q (F0 m 22 ls []) := by
    intro n7
    induction n7 with
    | zero => intro x_seed_7 x_ranksByBucket_thingCount_7 x_ranksByBucket_groupCount_7 f_ranksByBucket_groups_7 f_ranksByBucket_begins_7 f_ranksByBucket_members_7 f_starts_7 f_steps_7 f_numbers_7 f_displacements_7 f_ranksByNumber_7 i3_7 h; exact kk_iter0 h
    | succ n7 ih7 =>
      intro x_seed_7 x_ranksByBucket_thingCount_7 x_ranksByBucket_groupCount_7 f_ranksByBucket_groups_7 f_ranksByBucket_begins_7 f_ranksByBucket_members_7 f_starts_7 f_steps_7 f_numbers_7 f_displacements_7 f_ranksByNumber_7 i3_7 hq H locs ls hw hl
      obtain ⟨y7, hF1, hI1⟩ := kk_iterS hq
      have hF1 : L_X0_settle_22 N q_x_size v3 q_f_places x_seed_7 x_ranksByBucket_thingCount_7 x_ranksByBucket_groupCount_7 f_ranksByBucket_groups_7 f_ranksByBucket_begins_7 f_ranksByBucket_members_7 f_starts_7 f_steps_7 f_numbers_7 f_displacements_7 f_ranksByNumber_7 i3_7 = some y7 := hF1
      unfold L_X0_settle_22 at hF1
      refine lv_iload_n hx hb dX0_settle_22 rfl (lv_at hl 2 rfl) ?_
      refine lv_bipush (v := 40) hx hb dX0_settle_23 (by decide) ?_
      refine lv_icmp_ge (tgt := 53) hx hb dX0_settle_25 (by decide) (fun c8 => ?_) (fun c8 => ?_)
      · have hF1 := (if_pos c8).symm.trans hF1
        have hy := Option.some.inj hF1
        subst hy
        have hz := Option.some.inj hI1
        subst hz
        exact hJ1 q_x_size v3 x_seed_7 x_ranksByBucket_thingCount_7 x_ranksByBucket_groupCount_7 f_ranksByBucket_groups_7 f_ranksByBucket_begins_7 f_ranksByBucket_members_7 f_starts_7 f_steps_7 f_numbers_7 f_displacements_7 f_ranksByNumber_7 hF0 _ _ _ hw (lv_sub hl [] rfl)
      · have hF1 := (if_neg c8).symm.trans hF1
        refine lv_aload_n hx hb dX0_settle_28 rfl (lv_at hl 0 rfl) ?_
        refine lv_iload_n hx hb dX0_settle_29 rfl (lv_at hl 2 rfl) ?_
        refine kk_put F hw ui_X0_settle_X0 tyX0 tyX0_ok nmX0 0 rfl rfl 8 (by decide) m_X0_settle_Cond_fieldLink_RX0_57_PerfectPew_Displacer_seed_I_ rfl rfl rfl (Nat.le_of_ble_eq_true rfl) dX0_settle_30 (fun H locs hw => ?_)
        have hw : kk_wd G A s.heap [(a0, .inr (0, [.ref a1, .ref a8, .ref a10, .ref a12, .ref a14, .ref a16, .int q_x_size, .int v3, .int i3_7])), (a1, .inr (2, [.ref a2, .ref a4, .ref a6, .int x_ranksByBucket_thingCount_7, .int x_ranksByBucket_groupCount_7])), (a2, .inr (6, [.ref a3])), (a3, .inl (cI, 120, .inl f_ranksByBucket_groups_7)), (a4, .inr (6, [.ref a5])), (a5, .inl (cI, 121, .inl f_ranksByBucket_begins_7)), (a6, .inr (6, [.ref a7])), (a7, .inl (cI, 120, .inl f_ranksByBucket_members_7)), (a8, .inr (6, [.ref a9])), (a9, .inl (cI, 120, .inl f_starts_7)), (a10, .inr (6, [.ref a11])), (a11, .inl (cI, 120, .inl f_steps_7)), (a12, .inr (6, [.ref a13])), (a13, .inl (cI, 120, .inl f_numbers_7)), (a14, .inr (6, [.ref a15])), (a15, .inl (cI, 120, .inl f_displacements_7)), (a16, .inr (6, [.ref a17])), (a17, .inl (cI, 120, .inl f_ranksByNumber_7)), (b0, .inr (4, [.ref b1, .int q_x_size])), (b1, .inr (6, [.ref b2])), (b2, .inl (cI, 120, .inl q_f_places))] H locs := hw
        refine lv_aload_n hx hb dX0_settle_33 rfl (lv_at hl 0 rfl) ?_
        refine lv_aload_n hx hb dX0_settle_34 rfl (lv_at hl 1 rfl) ?_
        obtain ⟨v9, ev9, hF1⟩ := kk_bind hF1
        refine kk_callV 0 0 hw (kk_runV (As := [.ref b0]) (rest := []) F hw hl.1 (c_X0_hashKeys l G cI cJ ad a0 a1 a2 a3 a4 a5 a6 a7 a8 a9 a10 a11 a12 a14 a16 b0 b1 b2 q_x_size v3 i3_7 x_ranksByBucket_thingCount_7 x_ranksByBucket_groupCount_7 f_ranksByBucket_groups_7 f_ranksByBucket_begins_7 f_ranksByBucket_members_7 f_starts_7 f_steps_7 q_x_size q_f_places N v9 ev9 H.size) gX0_settle_X0_hashKeys rfl ⟨rfl, md_X0_hashKeys⟩ ⟨Nat.le_of_ble_eq_true rfl, Nat.le_of_ble_eq_true rfl⟩ ⟨Nat.le_of_ble_eq_true rfl, Nat.le_of_ble_eq_true rfl⟩ 0 0 rfl rfl rfl rfl (Nat.le_of_ble_eq_true rfl) dX0_settle_35) ⟨rfl, rfl⟩ [0, 1, 2, 3, 4, 5, 6, 7, 8, 9, 10, 11, 18, 19, 20] (by decide) rfl rfl (fun H locs hw => ?_)
        have hw : kk_wd G A s.heap [(a0, .inr (0, [.ref a1, .ref a8, .ref a10, .ref a12, .ref a14, .ref a16, .int q_x_size, .int v3, .int i3_7])), (a1, .inr (2, [.ref a2, .ref a4, .ref a6, .int v9.1, .int v9.2.1])), (a2, .inr (6, [.ref a3])), (a3, .inl (cI, 120, .inl v9.2.2.1)), (a4, .inr (6, [.ref a5])), (a5, .inl (cI, 121, .inl v9.2.2.2.1)), (a6, .inr (6, [.ref a7])), (a7, .inl (cI, 120, .inl v9.2.2.2.2.1)), (a8, .inr (6, [.ref a9])), (a9, .inl (cI, 120, .inl v9.2.2.2.2.2.1)), (a10, .inr (6, [.ref a11])), (a11, .inl (cI, 120, .inl v9.2.2.2.2.2.2)), (a12, .inr (6, [.ref a13])), (a13, .inl (cI, 120, .inl f_numbers_7)), (a14, .inr (6, [.ref a15])), (a15, .inl (cI, 120, .inl f_displacements_7)), (a16, .inr (6, [.ref a17])), (a17, .inl (cI, 120, .inl f_ranksByNumber_7)), (b0, .inr (4, [.ref b1, .int q_x_size])), (b1, .inr (6, [.ref b2])), (b2, .inl (cI, 120, .inl q_f_places))] H locs := hw
        refine lv_aload_n hx hb dX0_settle_38 rfl (lv_at hl 0 rfl) ?_
        obtain ⟨v10, ev10, hF1⟩ := kk_bind hF1
        refine kk_callI 0 0 hw (kk_runV (As := []) (rest := []) F hw hl.1 (c_X0_displaceAll l G cI cJ ad a0 a1 a2 a4 a5 a6 a7 a8 a9 a10 a11 a12 a13 a14 a15 a16 a17 q_x_size v3 i3_7 v9.1 v9.2.1 v9.2.2.2.1 v9.2.2.2.2.1 v9.2.2.2.2.2.1 v9.2.2.2.2.2.2 f_numbers_7 f_displacements_7 f_ranksByNumber_7 N v10 ev10 H.size) gX0_settle_X0_displaceAll rfl ⟨rfl, md_X0_displaceAll⟩ ⟨Nat.le_of_ble_eq_true rfl, Nat.le_of_ble_eq_true rfl⟩ ⟨Nat.le_of_ble_eq_true rfl, Nat.le_of_ble_eq_true rfl⟩ 0 0 rfl rfl rfl rfl (Nat.le_of_ble_eq_true rfl) dX0_settle_39) ⟨rfl, rfl⟩ [0, 1, 4, 5, 6, 7, 8, 9, 10, 11, 12, 13, 14, 15, 16, 17] (by decide) rfl rfl (fun H locs hw => ?_)
        have hw : kk_wd G A s.heap [(a0, .inr (0, [.ref a1, .ref a8, .ref a10, .ref a12, .ref a14, .ref a16, .int q_x_size, .int v3, .int i3_7])), (a1, .inr (2, [.ref a2, .ref a4, .ref a6, .int v9.1, .int v9.2.1])), (a2, .inr (6, [.ref a3])), (a3, .inl (cI, 120, .inl v9.2.2.1)), (a4, .inr (6, [.ref a5])), (a5, .inl (cI, 121, .inl v9.2.2.2.1)), (a6, .inr (6, [.ref a7])), (a7, .inl (cI, 120, .inl v9.2.2.2.2.1)), (a8, .inr (6, [.ref a9])), (a9, .inl (cI, 120, .inl v9.2.2.2.2.2.1)), (a10, .inr (6, [.ref a11])), (a11, .inl (cI, 120, .inl v9.2.2.2.2.2.2)), (a12, .inr (6, [.ref a13])), (a13, .inl (cI, 120, .inl v10.2.1)), (a14, .inr (6, [.ref a15])), (a15, .inl (cI, 120, .inl v10.2.2.1)), (a16, .inr (6, [.ref a17])), (a17, .inl (cI, 120, .inl v10.2.2.2)), (b0, .inr (4, [.ref b1, .int q_x_size])), (b1, .inr (6, [.ref b2])), (b2, .inl (cI, 120, .inl q_f_places))] H locs := hw
        refine lv_if_eq (tgt := 47) hx hb dX0_settle_42 (by decide) (fun c11 => ?_) (fun c11 => ?_)
        · have hF1 := (if_pos c11).symm.trans hF1
          refine lv_iinc (v := (i3_7 + 1)) (lv' := [(3, .int (i3_7 + 1)), (0, .ref a0), (1, .ref b0)]) hx hb dX0_settle_47 hl (k := 2) rfl rfl (by decide) rfl (fun ls hl => ?_)
          refine lv_goto (tgt := 22) hx hb dX0_settle_50 (by decide) ?_
          have hy := Option.some.inj hF1
          subst hy
          exact ih7 i3_7 v9.1 v9.2.1 v9.2.2.1 v9.2.2.2.1 v9.2.2.2.2.1 v9.2.2.2.2.2.1 v9.2.2.2.2.2.2 v10.2.1 v10.2.2.1 v10.2.2.2 (i3_7 + 1) hI1 _ _ _ hw (lv_sub hl [1, 2, 0] rfl)
        · have hF1 := (if_neg c11).symm.trans hF1
          have hy := Option.some.inj hF1
          subst hy
          have hz := Option.some.inj hI1
          subst hz
          exact hJ2 q_x_size v3 i3_7 v9.1 v9.2.1 v9.2.2.1 v9.2.2.2.1 v9.2.2.2.2.1 v9.2.2.2.2.2.1 v9.2.2.2.2.2.2 v10.2.1 v10.2.2.1 v10.2.2.2 hF0 _ _ _ hw (lv_sub hl [] rfl)
  exact hL7 N x_seed x_ranksByBucket_thingCount x_ranksByBucket_groupCount f_ranksByBucket_groups f_ranksByBucket_begins f_ranksByBucket_members f_starts f_steps f_numbers f_displacements f_ranksByNumber 0 hz7 _ _ _ hw (lv_sub hl [1, 2, 0] rfl)
theorem ui_X0_numberOf_X0 : ∀ w ∈ u_ws RX0 TX0 9, w ∈ wsX0_numberOf := by decide +kernel
theorem m_X0_numberOf_Cond_fieldLink_RX0_35_PerfectPew_Displacer_displacements_LPerfectPew_Row_ : Cond.fieldLink RX0 35 "PerfectPew$Displacer" "displacements" "LPerfectPew$Row;" ∈ wsX0_numberOf := by decide +kernel
theorem m_X0_numberOf_Cond_fieldLink_RX0_81_PerfectPew_Hash_START_LPerfectPew_Hash_ : Cond.fieldLink RX0 81 "PerfectPew$Hash" "START" "LPerfectPew$Hash;" ∈ wsX0_numberOf := by decide +kernel
theorem m_X0_numberOf_Cond_fieldLink_RX0_57_PerfectPew_Displacer_seed_I_ : Cond.fieldLink RX0 57 "PerfectPew$Displacer" "seed" "I" ∈ wsX0_numberOf := by decide +kernel
theorem m_X0_numberOf_Cond_fieldLink_RX0_47_PerfectPew_Displacer_keyCount_I_ : Cond.fieldLink RX0 47 "PerfectPew$Displacer" "keyCount" "I" ∈ wsX0_numberOf := by decide +kernel
theorem m_X0_numberOf_Cond_initialized_yX7_remainder_cls : Cond.initialized yX7_remainder.cls ∈ wsX0_numberOf := by decide +kernel
theorem m_X0_numberOf_Cond_static_yX7_remainder : Cond.static yX7_remainder ∈ wsX0_numberOf := by decide +kernel
theorem m_X0_numberOf_Cond_initialized_yX3_of_cls : Cond.initialized yX3_of.cls ∈ wsX0_numberOf := by decide +kernel
theorem m_X0_numberOf_Cond_instanceMethod_yX3_of : Cond.instanceMethod yX3_of ∈ wsX0_numberOf := by decide +kernel
theorem m_X0_numberOf_Cond_selects_RX3_yX3_of_yX3_of : Cond.selects RX3 yX3_of yX3_of ∈ wsX0_numberOf := by decide +kernel
theorem m_X0_numberOf_Cond_initialized_yX6_get_cls : Cond.initialized yX6_get.cls ∈ wsX0_numberOf := by decide +kernel
theorem m_X0_numberOf_Cond_instanceMethod_yX6_get : Cond.instanceMethod yX6_get ∈ wsX0_numberOf := by decide +kernel
theorem m_X0_numberOf_Cond_selects_RX6_yX6_get_yX6_get : Cond.selects RX6 yX6_get yX6_get ∈ wsX0_numberOf := by decide +kernel
set_option maxRecDepth 100000 in
set_option maxHeartbeats 4000000 in
theorem c_X0_numberOf (l : Launch) (G : va_G) (cI cJ : ClassId) (ad : Nat → Nat) (a0 a1 a8 a10 a12 a14 a15 a16 : Nat) (x_keyCount : Int32) (x_bucketCount : Int32) (x_seed : Int32) (f_displacements : Nat → Int32) (i1 : Int32) (N : Nat) (x : Int32) (hF0 : F_X0_numberOf N x_keyCount x_bucketCount x_seed f_displacements i1 = some x) : kk_I l yX0_numberOf wsX0_numberOf 2 0 0 43 [.ref a0, .int i1] G cI cJ ad [(a0, .inr (0, [.ref a1, .ref a8, .ref a10, .ref a12, .ref a14, .ref a16, .int x_keyCount, .int x_bucketCount, .int x_seed])), (a14, .inr (6, [.ref a15])), (a15, .inl (cI, 120, .inl f_displacements))] x [(a0, .inr (0, [.ref a1, .ref a8, .ref a10, .ref a12, .ref a14, .ref a16, .int x_keyCount, .int x_bucketCount, .int x_seed])), (a14, .inr (6, [.ref a15])), (a15, .inl (cI, 120, .inl f_displacements))] := by
  refine kk_ofI (cc := cX0_numberOf) (maxL := 3) (by decide) rfl (Nat.le_of_ble_eq_true rfl) ?_
  intro p e s m below meth c A Q ls H locs hx hb hml hown hts hE hw hl hret
  have F : kk_at p m c cX0_numberOf 3 s _ wsX0_numberOf RX0 G cI cJ ad A := ⟨⟨hx, hb, hml, hown, hts⟩, hE⟩
  have hl : lv_has ls 3 [(0, .ref a0), (1, .int i1)] := hl
  unfold F_X0_numberOf at hF0
  refine lv_aload_n hx hb dX0_numberOf_0 rfl (lv_at hl 0 rfl) ?_
  refine kk_get (T := TX0) F hw ui_X0_numberOf_X0 0 rfl rfl 4 (by decide) m_X0_numberOf_Cond_fieldLink_RX0_35_PerfectPew_Displacer_displacements_LPerfectPew_Row_ rfl dX0_numberOf_1 ?_
  refine lv_aload_n hx hb dX0_numberOf_4 rfl (lv_at hl 0 rfl) ?_
  refine lv_iload_n hx hb dX0_numberOf_5 rfl (lv_at hl 1 rfl) ?_
  obtain ⟨v1, ev1, hF0⟩ := kk_bind hF0
  refine kk_callI 0 0 hw (kk_runV (As := [.int i1]) (rest := [.ref a14]) F hw hl.1 (c_X0_bucketOf l G cI cJ ad a0 a1 a8 a10 a12 a14 a16 x_keyCount x_bucketCount x_seed i1 N v1 ev1 H.size) gX0_numberOf_X0_bucketOf rfl ⟨rfl, md_X0_bucketOf⟩ ⟨Nat.le_of_ble_eq_true rfl, Nat.le_of_ble_eq_true rfl⟩ ⟨Nat.le_of_ble_eq_true rfl, Nat.le_of_ble_eq_true rfl⟩ 0 0 rfl rfl rfl rfl (Nat.le_of_ble_eq_true rfl) dX0_numberOf_6) ⟨rfl, rfl⟩ [0] (by decide) rfl rfl (fun H locs hw => ?_)
  have hw : kk_wd G A s.heap [(a0, .inr (0, [.ref a1, .ref a8, .ref a10, .ref a12, .ref a14, .ref a16, .int x_keyCount, .int x_bucketCount, .int x_seed])), (a14, .inr (6, [.ref a15])), (a15, .inl (cI, 120, .inl f_displacements))] H locs := hw
  obtain ⟨v2, ev2, hF0⟩ := kk_bind hF0
  refine kk_callI 0 0 hw (kk_runN (As := [.int v1]) (rest := []) F hw hl.1 (c_X6_get l G cI cJ ad a14 a15 120 f_displacements v1 N v2 ev2 H.size) gX0_numberOf_X6_get_n137 rfl nl_44 m_X0_numberOf_Cond_initialized_yX6_get_cls m_X0_numberOf_Cond_instanceMethod_yX6_get m_X0_numberOf_Cond_selects_RX6_yX6_get_yX6_get md_X6_get ⟨Nat.le_of_ble_eq_true rfl, Nat.le_of_ble_eq_true rfl⟩ ⟨Nat.le_of_ble_eq_true rfl, Nat.le_of_ble_eq_true rfl⟩ 1 6 rfl rfl rfl rfl (Nat.le_of_ble_eq_true rfl) dX0_numberOf_9) ⟨rfl, rfl⟩ [1, 2] (by decide) rfl rfl (fun H locs hw => ?_)
  have hw : kk_wd G A s.heap [(a0, .inr (0, [.ref a1, .ref a8, .ref a10, .ref a12, .ref a14, .ref a16, .int x_keyCount, .int x_bucketCount, .int x_seed])), (a14, .inr (6, [.ref a15])), (a15, .inl (cI, 120, .inl f_displacements))] H locs := hw
  refine lv_aload_n hx hb dX0_numberOf_12 rfl (lv_at hl 0 rfl) ?_
  refine lv_iload_n hx hb dX0_numberOf_13 rfl (lv_at hl 1 rfl) ?_
  obtain ⟨v3, ev3, hF0⟩ := kk_bind hF0
  refine kk_callI 0 0 hw (kk_runV (As := [.int i1]) (rest := [.int v2]) F hw hl.1 (c_X0_stepOf l G cI cJ ad a0 a1 a8 a10 a12 a14 a16 x_keyCount x_bucketCount x_seed i1 N v3 ev3 H.size) gX0_numberOf_X0_stepOf rfl ⟨rfl, md_X0_stepOf⟩ ⟨Nat.le_of_ble_eq_true rfl, Nat.le_of_ble_eq_true rfl⟩ ⟨Nat.le_of_ble_eq_true rfl, Nat.le_of_ble_eq_true rfl⟩ 0 0 rfl rfl rfl rfl (Nat.le_of_ble_eq_true rfl) dX0_numberOf_14) ⟨rfl, rfl⟩ [0] (by decide) rfl rfl (fun H locs hw => ?_)
  have hw : kk_wd G A s.heap [(a0, .inr (0, [.ref a1, .ref a8, .ref a10, .ref a12, .ref a14, .ref a16, .int x_keyCount, .int x_bucketCount, .int x_seed])), (a14, .inr (6, [.ref a15])), (a15, .inl (cI, 120, .inl f_displacements))] H locs := hw
  refine lv_imul hx hb dX0_numberOf_17 ?_
  refine lv_istore_n (lv' := [(2, .int (v2 * v3)), (0, .ref a0), (1, .int i1)]) hx hb dX0_numberOf_18 rfl hl (by decide) rfl (fun ls hl => ?_)
  refine kk_gets 1 (by decide) F hw m_X0_numberOf_Cond_fieldLink_RX0_81_PerfectPew_Hash_START_LPerfectPew_Hash_ dX0_numberOf_19 ?_
  refine lv_iload_n hx hb dX0_numberOf_22 rfl (lv_at hl 2 rfl) ?_
  refine lv_aload_n hx hb dX0_numberOf_23 rfl (lv_at hl 1 rfl) ?_
  refine kk_get (T := TX0) F hw ui_X0_numberOf_X0 0 rfl rfl 8 (by decide) m_X0_numberOf_Cond_fieldLink_RX0_57_PerfectPew_Displacer_seed_I_ rfl dX0_numberOf_24 ?_
  obtain ⟨v4, ev4, hF0⟩ := kk_bind hF0
  refine kk_callH 0 0 hw (kk_runH (As := [.int i1, .int x_seed]) (rest := []) F hw hl.1 (by decide) (c_X3_of l G cI cJ ad 1 i1 x_seed N v4 ev4 (by decide) H.size) gX0_numberOf_X3_of_n87 rfl nl_32 m_X0_numberOf_Cond_initialized_yX3_of_cls m_X0_numberOf_Cond_instanceMethod_yX3_of m_X0_numberOf_Cond_selects_RX3_yX3_of_yX3_of md_X3_of ⟨Nat.le_of_ble_eq_true rfl, Nat.le_of_ble_eq_true rfl⟩ ⟨Nat.le_of_ble_eq_true rfl, Nat.le_of_ble_eq_true rfl⟩ rfl (Nat.le_of_ble_eq_true rfl) dX0_numberOf_27) ⟨rfl, rfl⟩ (fun H locs hw => ?_)
  refine lv_iload_n hx hb dX0_numberOf_30 rfl (lv_at hl 0 rfl) ?_
  refine lv_iadd hx hb dX0_numberOf_31 ?_
  refine lv_aload_n hx hb dX0_numberOf_32 rfl (lv_at hl 1 rfl) ?_
  refine kk_get (T := TX0) F hw ui_X0_numberOf_X0 0 rfl rfl 6 (by decide) m_X0_numberOf_Cond_fieldLink_RX0_47_PerfectPew_Displacer_keyCount_I_ rfl dX0_numberOf_33 ?_
  obtain ⟨v5, ev5, hF0⟩ := kk_bind hF0
  refine kk_callI 0 0 hw (kk_runSN (As := [.int (v4 + (v2 * v3)), .int x_keyCount]) (rest := []) F hw hl.1 (c_X7_remainder l G cI cJ ad (v4 + (v2 * v3)) x_keyCount N v5 ev5 H.size) gX0_numberOf_X7_remainder_n143 rfl nl_33 m_X0_numberOf_Cond_initialized_yX7_remainder_cls m_X0_numberOf_Cond_static_yX7_remainder md_X7_remainder ⟨Nat.le_of_ble_eq_true rfl, Nat.le_of_ble_eq_true rfl⟩ ⟨Nat.le_of_ble_eq_true rfl, Nat.le_of_ble_eq_true rfl⟩ rfl (Nat.le_of_ble_eq_true rfl) dX0_numberOf_36) ⟨rfl, rfl⟩ [] (by decide) rfl rfl (fun H locs hw => ?_)
  have hy := Option.some.inj hF0
  subst hy
  exact hret dX0_numberOf_39 (by decide) (by decide) hw
