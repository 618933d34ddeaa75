theorem ui_X1_vertexOf_X1 : ∀ w ∈ u_ws RX1 TX1 8, w ∈ wsX1_vertexOf := by decide +kernel
theorem m_X1_vertexOf_Cond_fieldLink_RX1_47_PerfectPew_Graph_seed_I_ : Cond.fieldLink RX1 47 "PerfectPew$Graph" "seed" "I" ∈ wsX1_vertexOf := by decide +kernel
theorem m_X1_vertexOf_Cond_fieldLink_RX1_44_PerfectPew_Graph_vertexCount_I_ : Cond.fieldLink RX1 44 "PerfectPew$Graph" "vertexCount" "I" ∈ wsX1_vertexOf := by decide +kernel
theorem m_X1_vertexOf_Cond_initialized_yX7_remainder_cls : Cond.initialized yX7_remainder.cls ∈ wsX1_vertexOf := by decide +kernel
theorem m_X1_vertexOf_Cond_static_yX7_remainder : Cond.static yX7_remainder ∈ wsX1_vertexOf := by decide +kernel
theorem m_X1_vertexOf_Cond_initialized_yX3_of_cls : Cond.initialized yX3_of.cls ∈ wsX1_vertexOf := by decide +kernel
theorem m_X1_vertexOf_Cond_instanceMethod_yX3_of : Cond.instanceMethod yX3_of ∈ wsX1_vertexOf := by decide +kernel
theorem m_X1_vertexOf_Cond_selects_RX3_yX3_of_yX3_of : Cond.selects RX3 yX3_of yX3_of ∈ wsX1_vertexOf := by decide +kernel
set_option maxRecDepth 100000 in
set_option maxHeartbeats 4000000 in
theorem c_X1_vertexOf (l : Launch) (G : va_G) (cI cJ : ClassId) (ad : Nat → Nat) (a0 a1 a8 a10 a12 : Nat) (x_reachedCount : Int32) (x_keyCount : Int32) (x_vertexCount : Int32) (x_seed : Int32) (k1 : Nat) (i2 : Int32) (N : Nat) (x : Int32) (hF0 : F_X1_vertexOf N x_vertexCount x_seed k1 i2 = some x) (hkk1 : k1 < 6) : kk_I l yX1_vertexOf wsX1_vertexOf 1 0 0 22 [.ref a0, .ref (ad k1), .int i2] G cI cJ ad [(a0, .inr (1, [.ref a1, .ref a8, .ref a10, .ref a12, .int x_reachedCount, .int x_keyCount, .int x_vertexCount, .int x_seed]))] x [(a0, .inr (1, [.ref a1, .ref a8, .ref a10, .ref a12, .int x_reachedCount, .int x_keyCount, .int x_vertexCount, .int x_seed]))] := by
  refine kk_ofI (cc := cX1_vertexOf) (maxL := 3) (by decide) rfl (Nat.le_of_ble_eq_true rfl) ?_
  intro p e s m below meth c A Q ls H locs hx hb hml hown hts hE hw hl hret
  have F : kk_at p m c cX1_vertexOf 3 s _ wsX1_vertexOf RX1 G cI cJ ad A := ⟨⟨hx, hb, hml, hown, hts⟩, hE⟩
  have hl : lv_has ls 3 [(0, .ref a0), (1, .ref (ad k1)), (2, .int i2)] := hl
  unfold F_X1_vertexOf at hF0
  refine lv_aload_n hx hb dX1_vertexOf_0 rfl (lv_at hl 1 rfl) ?_
  refine lv_iload_n hx hb dX1_vertexOf_1 rfl (lv_at hl 2 rfl) ?_
  refine lv_aload_n hx hb dX1_vertexOf_2 rfl (lv_at hl 0 rfl) ?_
  refine kk_get (T := TX1) F hw ui_X1_vertexOf_X1 0 rfl rfl 7 (by decide) m_X1_vertexOf_Cond_fieldLink_RX1_47_PerfectPew_Graph_seed_I_ rfl dX1_vertexOf_3 ?_
  obtain ⟨v1, ev1, hF0⟩ := kk_bind hF0
  refine kk_callH 0 0 hw (kk_runH (As := [.int i2, .int x_seed]) (rest := []) F hw hl.1 hkk1 (c_X3_of l G cI cJ ad k1 i2 x_seed N v1 ev1 hkk1 H.size) gX1_vertexOf_X3_of_n122 rfl nl_48 m_X1_vertexOf_Cond_initialized_yX3_of_cls m_X1_vertexOf_Cond_instanceMethod_yX3_of m_X1_vertexOf_Cond_selects_RX3_yX3_of_yX3_of md_X3_of ⟨Nat.le_of_ble_eq_true rfl, Nat.le_of_ble_eq_true rfl⟩ ⟨Nat.le_of_ble_eq_true rfl, Nat.le_of_ble_eq_true rfl⟩ rfl (Nat.le_of_ble_eq_true rfl) dX1_vertexOf_6) ⟨rfl, rfl⟩ (fun H locs hw => ?_)
  refine lv_aload_n hx hb dX1_vertexOf_9 rfl (lv_at hl 0 rfl) ?_
  refine kk_get (T := TX1) F hw ui_X1_vertexOf_X1 0 rfl rfl 6 (by decide) m_X1_vertexOf_Cond_fieldLink_RX1_44_PerfectPew_Graph_vertexCount_I_ rfl dX1_vertexOf_10 ?_
  obtain ⟨v2, ev2, hF0⟩ := kk_bind hF0
  refine kk_callI 0 0 hw (kk_runSN (As := [.int v1, .int x_vertexCount]) (rest := []) F hw hl.1 (c_X7_remainder l G cI cJ ad v1 x_vertexCount N v2 ev2 H.size) gX1_vertexOf_X7_remainder_n118 rfl nl_49 m_X1_vertexOf_Cond_initialized_yX7_remainder_cls m_X1_vertexOf_Cond_static_yX7_remainder md_X7_remainder ⟨Nat.le_of_ble_eq_true rfl, Nat.le_of_ble_eq_true rfl⟩ ⟨Nat.le_of_ble_eq_true rfl, Nat.le_of_ble_eq_true rfl⟩ rfl (Nat.le_of_ble_eq_true rfl) dX1_vertexOf_13) ⟨rfl, rfl⟩ [] (by decide) rfl rfl (fun H locs hw => ?_)
  have hy := Option.some.inj hF0
  subst hy
  exact hret dX1_vertexOf_16 (by decide) (by decide) hw
theorem ui_X1_layEdges_X1 : ∀ w ∈ u_ws RX1 TX1 8, w ∈ wsX1_layEdges := by decide +kernel
theorem m_X1_layEdges_Cond_fieldLink_RX1_14_PerfectPew_Graph_ends_LPerfectPew_Groups_ : Cond.fieldLink RX1 14 "PerfectPew$Graph" "ends" "LPerfectPew$Groups;" ∈ wsX1_layEdges := by decide +kernel
theorem m_X1_layEdges_Cond_initialized_yX2_arrange_cls : Cond.initialized yX2_arrange.cls ∈ wsX1_layEdges := by decide +kernel
theorem m_X1_layEdges_Cond_instanceMethod_yX2_arrange : Cond.instanceMethod yX2_arrange ∈ wsX1_layEdges := by decide +kernel
theorem m_X1_layEdges_Cond_selects_RX2_yX2_arrange_yX2_arrange : Cond.selects RX2 yX2_arrange yX2_arrange ∈ wsX1_layEdges := by decide +kernel
theorem m_X1_layEdges_Cond_fieldLink_RX1_41_PerfectPew_Graph_keyCount_I_ : Cond.fieldLink RX1 41 "PerfectPew$Graph" "keyCount" "I" ∈ wsX1_layEdges := by decide +kernel
theorem m_X1_layEdges_Cond_fieldLink_RX1_44_PerfectPew_Graph_vertexCount_I_ : Cond.fieldLink RX1 44 "PerfectPew$Graph" "vertexCount" "I" ∈ wsX1_layEdges := by decide +kernel
theorem m_X1_layEdges_Cond_fieldLink_RX1_65_PerfectPew_Hash_ONE_END_LPerfectPew_Hash_ : Cond.fieldLink RX1 65 "PerfectPew$Hash" "ONE_END" "LPerfectPew$Hash;" ∈ wsX1_layEdges := by decide +kernel
theorem m_X1_layEdges_Cond_fieldLink_RX1_78_PerfectPew_Hash_OTHER_END_LPerfectPew_Hash_ : Cond.fieldLink RX1 78 "PerfectPew$Hash" "OTHER_END" "LPerfectPew$Hash;" ∈ wsX1_layEdges := by decide +kernel
theorem m_X1_layEdges_Cond_initialized_yX2_assign_cls : Cond.initialized yX2_assign.cls ∈ wsX1_layEdges := by decide +kernel
theorem m_X1_layEdges_Cond_instanceMethod_yX2_assign : Cond.instanceMethod yX2_assign ∈ wsX1_layEdges := by decide +kernel
theorem m_X1_layEdges_Cond_selects_RX2_yX2_assign_yX2_assign : Cond.selects RX2 yX2_assign yX2_assign ∈ wsX1_layEdges := by decide +kernel
theorem m_X1_layEdges_Cond_initialized_yX4_at_cls : Cond.initialized yX4_at.cls ∈ wsX1_layEdges := by decide +kernel
theorem m_X1_layEdges_Cond_instanceMethod_yX4_at : Cond.instanceMethod yX4_at ∈ wsX1_layEdges := by decide +kernel
theorem m_X1_layEdges_Cond_selects_RX4_yX4_at_yX4_at : Cond.selects RX4 yX4_at yX4_at ∈ wsX1_layEdges := by decide +kernel
theorem m_X1_layEdges_Cond_initialized_yX2_restart_cls : Cond.initialized yX2_restart.cls ∈ wsX1_layEdges := by decide +kernel
theorem m_X1_layEdges_Cond_instanceMethod_yX2_restart : Cond.instanceMethod yX2_restart ∈ wsX1_layEdges := by decide +kernel
theorem m_X1_layEdges_Cond_selects_RX2_yX2_restart_yX2_restart : Cond.selects RX2 yX2_restart yX2_restart ∈ wsX1_layEdges := by decide +kernel
set_option maxRecDepth 100000 in
set_option maxHeartbeats 4000000 in
theorem c_X1_layEdges (l : Launch) (G : va_G) (cI cJ : ClassId) (ad : Nat → Nat) (a0 a1 a2 a3 a4 a5 a6 a7 a8 a10 a12 b0 b1 b2 : Nat) (x_reachedCount : Int32) (x_keyCount : Int32) (x_vertexCount : Int32) (x_seed : Int32) (x_ends_thingCount : Int32) (x_ends_groupCount : Int32) (f_ends_groups : Nat → Int32) (f_ends_begins : Nat → Int32) (f_ends_members : Nat → Int32) (q_x_size : Int32) (q_f_places : Nat → Int32) (N : Nat) (x : (Int32 × Int32 × (Nat → Int32) × (Nat → Int32) × (Nat → Int32))) (hF0 : F_X1_layEdges N x_keyCount x_vertexCount x_seed x_ends_thingCount x_ends_groupCount f_ends_groups f_ends_begins f_ends_members q_f_places = some x) : kk_V l yX1_layEdges wsX1_layEdges 3 0 0 66 [.ref a0, .ref b0] G cI cJ ad [(a0, .inr (1, [.ref a1, .ref a8, .ref a10, .ref a12, .int x_reachedCount, .int x_keyCount, .int x_vertexCount, .int x_seed])), (a1, .inr (2, [.ref a2, .ref a4, .ref a6, .int x_ends_thingCount, .int x_ends_groupCount])), (a2, .inr (6, [.ref a3])), (a3, .inl (cI, 240, .inl f_ends_groups)), (a4, .inr (6, [.ref a5])), (a5, .inl (cI, 361, .inl f_ends_begins)), (a6, .inr (6, [.ref a7])), (a7, .inl (cI, 240, .inl f_ends_members)), (b0, .inr (4, [.ref b1, .int q_x_size])), (b1, .inr (6, [.ref b2])), (b2, .inl (cI, 120, .inl q_f_places))] [(a0, .inr (1, [.ref a1, .ref a8, .ref a10, .ref a12, .int x_reachedCount, .int x_keyCount, .int x_vertexCount, .int x_seed])), (a1, .inr (2, [.ref a2, .ref a4, .ref a6, .int x.1, .int x.2.1])), (a2, .inr (6, [.ref a3])), (a3, .inl (cI, 240, .inl x.2.2.1)), (a4, .inr (6, [.ref a5])), (a5, .inl (cI, 361, .inl x.2.2.2.1)), (a6, .inr (6, [.ref a7])), (a7, .inl (cI, 240, .inl x.2.2.2.2)), (b0, .inr (4, [.ref b1, .int q_x_size])), (b1, .inr (6, [.ref b2])), (b2, .inl (cI, 120, .inl q_f_places))] := by
  refine kk_ofV (cc := cX1_layEdges) (maxL := 4) (by decide) rfl (Nat.le_of_ble_eq_true rfl) ?_
  intro p e s m below meth c A Q ls H locs hx hb hml hown hts hE hw hl hret
  have F : kk_at p m c cX1_layEdges 4 s _ wsX1_layEdges RX1 G cI cJ ad A := ⟨⟨hx, hb, hml, hown, hts⟩, hE⟩
  have hl : lv_has ls 4 [(0, .ref a0), (1, .ref b0)] := hl
  unfold F_X1_layEdges at hF0
  have hJ1 : ∀ (x_ends_thingCount_1 : Int32) (x_ends_groupCount_1 : Int32) (f_ends_groups_1 : Nat → Int32) (f_ends_begins_1 : Nat → Int32) (f_ends_members_1 : Nat → Int32), J_X1_layEdges_77 N x_ends_thingCount_1 x_ends_groupCount_1 f_ends_groups_1 f_ends_begins_1 f_ends_members_1 = some x → ∀ (H : Heap) (locs : List Loc) (ls : Array Slot), kk_wd G A s.heap [(a0, .inr (1, [.ref a1, .ref a8, .ref a10, .ref a12, .int x_reachedCount, .int x_keyCount, .int x_vertexCount, .int x_seed])), (a1, .inr (2, [.ref a2, .ref a4, .ref a6, .int x_ends_thingCount_1, .int x_ends_groupCount_1])), (a2, .inr (6, [.ref a3])), (a3, .inl (cI, 240, .inl f_ends_groups_1)), (a4, .inr (6, [.ref a5])), (a5, .inl (cI, 361, .inl f_ends_begins_1)), (a6, .inr (6, [.ref a7])), (a7, .inl (cI, 240, .inl f_ends_members_1)), (b0, .inr (4, [.ref b1, .int q_x_size])), (b1, .inr (6, [.ref b2])), (b2, .inl (cI, 120, .inl q_f_places))] H locs → lv_has ls 4 [(0, .ref a0)] → W p l e (kk_rm 3 0 0 66) s m ([.ref a0, .ref b0] : List Value).toArray below meth c H locs 0 0 Q (F0 m 77 ls []) := by
    intro x_ends_thingCount_1 x_ends_groupCount_1 f_ends_groups_1 f_ends_begins_1 f_ends_members_1 hF0 H locs ls hw hl
    unfold J_X1_layEdges_77 at hF0
    refine lv_aload_n hx hb dX1_layEdges_77 rfl (lv_at hl 0 rfl) ?_
    refine kk_get (T := TX1) F hw ui_X1_layEdges_X1 0 rfl rfl 0 (by decide) m_X1_layEdges_Cond_fieldLink_RX1_14_PerfectPew_Graph_ends_LPerfectPew_Groups_ rfl dX1_layEdges_78 ?_
    obtain ⟨v2, ev2, hF0⟩ := kk_bind hF0
    refine kk_callV 0 0 hw (kk_runN (As := []) (rest := []) F hw hl.1 (c_X2_arrange l G cI cJ ad a1 a2 a3 a4 a5 a6 a7 x_ends_thingCount_1 x_ends_groupCount_1 240 f_ends_groups_1 361 f_ends_begins_1 240 f_ends_members_1 N v2 ev2 H.size) gX1_layEdges_X2_arrange_n81 rfl nl_51 m_X1_layEdges_Cond_initialized_yX2_arrange_cls m_X1_layEdges_Cond_instanceMethod_yX2_arrange m_X1_layEdges_Cond_selects_RX2_yX2_arrange_yX2_arrange md_X2_arrange ⟨Nat.le_of_ble_eq_true rfl, Nat.le_of_ble_eq_true rfl⟩ ⟨Nat.le_of_ble_eq_true rfl, Nat.le_of_ble_eq_true rfl⟩ 1 2 rfl rfl rfl rfl (Nat.le_of_ble_eq_true rfl) dX1_layEdges_81) ⟨rfl, rfl⟩ [1, 2, 3, 4, 5, 6, 7] (by decide) rfl rfl (fun H locs hw => ?_)
    have hw : kk_wd G A s.heap [(a0, .inr (1, [.ref a1, .ref a8, .ref a10, .ref a12, .int x_reachedCount, .int x_keyCount, .int x_vertexCount, .int x_seed])), (a1, .inr (2, [.ref a2, .ref a4, .ref a6, .int x_ends_thingCount_1, .int x_ends_groupCount_1])), (a2, .inr (6, [.ref a3])), (a3, .inl (cI, 240, .inl f_ends_groups_1)), (a4, .inr (6, [.ref a5])), (a5, .inl (cI, 361, .inl v2.1)), (a6, .inr (6, [.ref a7])), (a7, .inl (cI, 240, .inl v2.2)), (b0, .inr (4, [.ref b1, .int q_x_size])), (b1, .inr (6, [.ref b2])), (b2, .inl (cI, 120, .inl q_f_places))] H locs := hw
    have hy := Option.some.inj hF0
    subst hy
    exact hret dX1_layEdges_84 (by decide) (by decide) hw
  refine lv_aload_n hx hb dX1_layEdges_0 rfl (lv_at hl 0 rfl) ?_
  refine kk_get (T := TX1) F hw ui_X1_layEdges_X1 0 rfl rfl 0 (by decide) m_X1_layEdges_Cond_fieldLink_RX1_14_PerfectPew_Graph_ends_LPerfectPew_Groups_ rfl dX1_layEdges_1 ?_
  refine lv_iconst (v := 2) hx hb dX1_layEdges_4 (by decide) ?_
  refine lv_aload_n hx hb dX1_layEdges_5 rfl (lv_at hl 0 rfl) ?_
  refine kk_get (T := TX1) F hw ui_X1_layEdges_X1 0 rfl rfl 5 (by decide) m_X1_layEdges_Cond_fieldLink_RX1_41_PerfectPew_Graph_keyCount_I_ rfl dX1_layEdges_6 ?_
  refine lv_imul hx hb dX1_layEdges_9 ?_
  refine lv_aload_n hx hb dX1_layEdges_10 rfl (lv_at hl 0 rfl) ?_
  refine kk_get (T := TX1) F hw ui_X1_layEdges_X1 0 rfl rfl 6 (by decide) m_X1_layEdges_Cond_fieldLink_RX1_44_PerfectPew_Graph_vertexCount_I_ rfl dX1_layEdges_11 ?_
  obtain ⟨v3, ev3, hF0⟩ := kk_bind hF0
  refine kk_callV 0 0 hw (kk_runN (As := [.int (2 * x_keyCount), .int x_vertexCount]) (rest := []) F hw hl.1 (c_X2_restart l G cI cJ ad a1 a2 a4 a5 a6 x_ends_thingCount x_ends_groupCount 361 f_ends_begins (2 * x_keyCount) x_vertexCount N v3 ev3 H.size) gX1_layEdges_X2_restart_n58 rfl nl_46 m_X1_layEdges_Cond_initialized_yX2_restart_cls m_X1_layEdges_Cond_instanceMethod_yX2_restart m_X1_layEdges_Cond_selects_RX2_yX2_restart_yX2_restart md_X2_restart ⟨Nat.le_of_ble_eq_true rfl, Nat.le_of_ble_eq_true rfl⟩ ⟨Nat.le_of_ble_eq_true rfl, Nat.le_of_ble_eq_true rfl⟩ 1 2 rfl rfl rfl rfl (Nat.le_of_ble_eq_true rfl) dX1_layEdges_14) ⟨rfl, rfl⟩ [1, 4, 5] (by decide) rfl rfl (fun H locs hw => ?_)
  have hw : kk_wd G A s.heap [(a0, .inr (1, [.ref a1, .ref a8, .ref a10, .ref a12, .int x_reachedCount, .int x_keyCount, .int x_vertexCount, .int x_seed])), (a1, .inr (2, [.ref a2, .ref a4, .ref a6, .int v3.1, .int v3.2.1])), (a2, .inr (6, [.ref a3])), (a3, .inl (cI, 240, .inl f_ends_groups)), (a4, .inr (6, [.ref a5])), (a5, .inl (cI, 361, .inl v3.2.2)), (a6, .inr (6, [.ref a7])), (a7, .inl (cI, 240, .inl f_ends_members)), (b0, .inr (4, [.ref b1, .int q_x_size])), (b1, .inr (6, [.ref b2])), (b2, .inl (cI, 120, .inl q_f_places))] H locs := hw
  refine lv_iconst (v := 0) hx hb dX1_layEdges_17 (by decide) ?_
  refine lv_istore_n (lv' := [(2, .int 0), (0, .ref a0), (1, .ref b0)]) hx hb dX1_layEdges_18 rfl hl (by decide) rfl (fun ls hl => ?_)
  obtain ⟨z4, hz5, hF0⟩ := kk_bind hF0
  have hL5 : ∀ (n5 : Nat) (f_ends_groups_5 : Nat → Int32) (f_ends_begins_5 : Nat → Int32) (i2_5 : Int32), kk_iter (fun (σ : ((Nat → Int32) × (Nat → Int32) × Int32)) => L_X1_layEdges_19 N x_keyCount x_vertexCount x_seed q_f_places σ.1 σ.2.1 σ.2.2) n5 (f_ends_groups_5, f_ends_begins_5, i2_5) = some z4 → ∀ (H : Heap) (locs : List Loc) (ls : Array Slot), kk_wd G A s.heap [(a0, .inr (1, [.ref a1, .ref a8, .ref a10, .ref a12, .int x_reachedCount, .int x_keyCount, .int x_vertexCount, .int x_seed])), (a1, .inr (2, [.ref a2, .ref a4, .ref a6, .int v3.1, .int v3.2.1])), (a2, .inr (6, [.ref a3])), (a3, .inl (cI, 240, .inl f_ends_groups_5)), (a4, .inr (6, [.ref a5])), (a5, .inl (cI, 361, .inl f_ends_begins_5)), (a6, .inr (6, [.ref a7])), (a7, .inl (cI, 240, .inl f_ends_members)), (b0, .inr (4, [.ref b1, .int q_x_size])), (b1, .inr (6, [.ref b2])), (b2, .inl (cI, 120, .inl q_f_places))] H locs → lv_has ls 4 [(0, .ref a0), (1, .ref b0), (2, .int i2_5)] → W p l e (kk_rm 3 0 0 66) s m ([.ref a0, .ref b0] : List Value).toArray below meth c H locs 0 0 Q (F0 m 19 ls []) := by
    intro n5
    induction n5 with
    | zero => intro f_ends_groups_5 f_ends_begins_5 i2_5 h; exact kk_iter0 h
    | succ n5 ih5 =>
      intro f_ends_groups_5 f_ends_begins_5 i2_5 hq H locs ls hw hl
      obtain ⟨y5, hF1, hI1⟩ := kk_iterS hq
      have hF1 : L_X1_layEdges_19 N x_keyCount x_vertexCount x_seed q_f_places f_ends_groups_5 f_ends_begins_5 i2_5 = some y5 := hF1
      unfold L_X1_layEdges_19 at hF1
      refine lv_iload_n hx hb dX1_layEdges_19 rfl (lv_at hl 2 rfl) ?_
      refine lv_aload_n hx hb dX1_layEdges_20 rfl (lv_at hl 0 rfl) ?_
      refine kk_get (T := TX1) F hw ui_X1_layEdges_X1 0 rfl rfl 5 (by decide) m_X1_layEdges_Cond_fieldLink_RX1_41_PerfectPew_Graph_keyCount_I_ rfl dX1_layEdges_21 ?_
      refine lv_icmp_ge (tgt := 77) hx hb dX1_layEdges_24 (by decide) (fun c6 => ?_) (fun c6 => ?_)
      · have hF1 := (if_pos c6).symm.trans hF1
        have hy := Option.some.inj hF1
        subst hy
        have hz := Option.some.inj hI1
        subst hz
        exact hJ1 v3.1 v3.2.1 f_ends_groups_5 f_ends_begins_5 f_ends_members hF0 _ _ _ hw (lv_sub hl [0] rfl)
      · have hF1 := (if_neg c6).symm.trans hF1
        refine lv_aload_n hx hb dX1_layEdges_27 rfl (lv_at hl 1 rfl) ?_
        refine lv_iload_n hx hb dX1_layEdges_28 rfl (lv_at hl 2 rfl) ?_
        obtain ⟨v7, ev7, hF1⟩ := kk_bind hF1
        refine kk_callI 0 0 hw (kk_runN (As := [.int i2_5]) (rest := []) F hw hl.1 (c_X4_at l G cI cJ ad b0 b1 b2 q_x_size q_f_places i2_5 N v7 ev7 H.size) gX1_layEdges_X4_at_n61 rfl nl_47 m_X1_layEdges_Cond_initialized_yX4_at_cls m_X1_layEdges_Cond_instanceMethod_yX4_at m_X1_layEdges_Cond_selects_RX4_yX4_at_yX4_at md_X4_at ⟨Nat.le_of_ble_eq_true rfl, Nat.le_of_ble_eq_true rfl⟩ ⟨Nat.le_of_ble_eq_true rfl, Nat.le_of_ble_eq_true rfl⟩ 8 4 rfl rfl rfl rfl (Nat.le_of_ble_eq_true rfl) dX1_layEdges_29) ⟨rfl, rfl⟩ [8, 9, 10] (by decide) rfl rfl (fun H locs hw => ?_)
        have hw : kk_wd G A s.heap [(a0, .inr (1, [.ref a1, .ref a8, .ref a10, .ref a12, .int x_reachedCount, .int x_keyCount, .int x_vertexCount, .int x_seed])), (a1, .inr (2, [.ref a2, .ref a4, .ref a6, .int v3.1, .int v3.2.1])), (a2, .inr (6, [.ref a3])), (a3, .inl (cI, 240, .inl f_ends_groups_5)), (a4, .inr (6, [.ref a5])), (a5, .inl (cI, 361, .inl f_ends_begins_5)), (a6, .inr (6, [.ref a7])), (a7, .inl (cI, 240, .inl f_ends_members)), (b0, .inr (4, [.ref b1, .int q_x_size])), (b1, .inr (6, [.ref b2])), (b2, .inl (cI, 120, .inl q_f_places))] H locs := hw
        refine lv_istore_n (lv' := [(3, .int v7), (0, .ref a0), (1, .ref b0), (2, .int i2_5)]) hx hb dX1_layEdges_32 rfl hl (by decide) rfl (fun ls hl => ?_)
        refine lv_aload_n hx hb dX1_layEdges_33 rfl (lv_at hl 1 rfl) ?_
        refine kk_get (T := TX1) F hw ui_X1_layEdges_X1 0 rfl rfl 0 (by decide) m_X1_layEdges_Cond_fieldLink_RX1_14_PerfectPew_Graph_ends_LPerfectPew_Groups_ rfl dX1_layEdges_34 ?_
        refine lv_iconst (v := 2) hx hb dX1_layEdges_37 (by decide) ?_
        refine lv_iload_n hx hb dX1_layEdges_38 rfl (lv_at hl 3 rfl) ?_
        refine lv_imul hx hb dX1_layEdges_39 ?_
        refine lv_aload_n hx hb dX1_layEdges_40 rfl (lv_at hl 1 rfl) ?_
        refine kk_gets 4 (by decide) F hw m_X1_layEdges_Cond_fieldLink_RX1_65_PerfectPew_Hash_ONE_END_LPerfectPew_Hash_ dX1_layEdges_41 ?_
        refine lv_iload_n hx hb dX1_layEdges_44 rfl (lv_at hl 0 rfl) ?_
        obtain ⟨v8, ev8, hF1⟩ := kk_bind hF1
        refine kk_callI 0 0 hw (kk_runV (As := [.ref (ad 4), .int v7]) (rest := [.int (2 * i2_5), .ref a1]) F hw hl.1 (c_X1_vertexOf l G cI cJ ad a0 a1 a8 a10 a12 x_reachedCount x_keyCount x_vertexCount x_seed 4 v7 N v8 ev8 (by decide) H.size) gX1_layEdges_X1_vertexOf rfl ⟨rfl, md_X1_vertexOf⟩ ⟨Nat.le_of_ble_eq_true rfl, Nat.le_of_ble_eq_true rfl⟩ ⟨Nat.le_of_ble_eq_true rfl, Nat.le_of_ble_eq_true rfl⟩ 0 1 rfl rfl rfl rfl (Nat.le_of_ble_eq_true rfl) dX1_layEdges_45) ⟨rfl, rfl⟩ [0] (by decide) rfl rfl (fun H locs hw => ?_)
        have hw : kk_wd G A s.heap [(a0, .inr (1, [.ref a1, .ref a8, .ref a10, .ref a12, .int x_reachedCount, .int x_keyCount, .int x_vertexCount, .int x_seed])), (a1, .inr (2, [.ref a2, .ref a4, .ref a6, .int v3.1, .int v3.2.1])), (a2, .inr (6, [.ref a3])), (a3, .inl (cI, 240, .inl f_ends_groups_5)), (a4, .inr (6, [.ref a5])), (a5, .inl (cI, 361, .inl f_ends_begins_5)), (a6, .inr (6, [.ref a7])), (a7, .inl (cI, 240, .inl f_ends_members)), (b0, .inr (4, [.ref b1, .int q_x_size])), (b1, .inr (6, [.ref b2])), (b2, .inl (cI, 120, .inl q_f_places))] H locs := hw
        obtain ⟨v9, ev9, hF1⟩ := kk_bind hF1
        refine kk_callV 0 0 hw (kk_runN (As := [.int (2 * i2_5), .int v8]) (rest := []) F hw hl.1 (c_X2_assign l G cI cJ ad a1 a2 a3 a4 a5 a6 v3.1 v3.2.1 240 f_ends_groups_5 361 f_ends_begins_5 (2 * i2_5) v8 N v9 ev9 H.size) gX1_layEdges_X2_assign_n75 rfl nl_50 m_X1_layEdges_Cond_initialized_yX2_assign_cls m_X1_layEdges_Cond_instanceMethod_yX2_assign m_X1_layEdges_Cond_selects_RX2_yX2_assign_yX2_assign md_X2_assign ⟨Nat.le_of_ble_eq_true rfl, Nat.le_of_ble_eq_true rfl⟩ ⟨Nat.le_of_ble_eq_true rfl, Nat.le_of_ble_eq_true rfl⟩ 1 2 rfl rfl rfl rfl (Nat.le_of_ble_eq_true rfl) dX1_layEdges_48) ⟨rfl, rfl⟩ [1, 2, 3, 4, 5] (by decide) rfl rfl (fun H locs hw => ?_)
        have hw : kk_wd G A s.heap [(a0, .inr (1, [.ref a1, .ref a8, .ref a10, .ref a12, .int x_reachedCount, .int x_keyCount, .int x_vertexCount, .int x_seed])), (a1, .inr (2, [.ref a2, .ref a4, .ref a6, .int v3.1, .int v3.2.1])), (a2, .inr (6, [.ref a3])), (a3, .inl (cI, 240, .inl v9.1)), (a4, .inr (6, [.ref a5])), (a5, .inl (cI, 361, .inl v9.2)), (a6, .inr (6, [.ref a7])), (a7, .inl (cI, 240, .inl f_ends_members)), (b0, .inr (4, [.ref b1, .int q_x_size])), (b1, .inr (6, [.ref b2])), (b2, .inl (cI, 120, .inl q_f_places))] H locs := hw
        refine lv_aload_n hx hb dX1_layEdges_51 rfl (lv_at hl 1 rfl) ?_
        refine kk_get (T := TX1) F hw ui_X1_layEdges_X1 0 rfl rfl 0 (by decide) m_X1_layEdges_Cond_fieldLink_RX1_14_PerfectPew_Graph_ends_LPerfectPew_Groups_ rfl dX1_layEdges_52 ?_
        refine lv_iconst (v := 2) hx hb dX1_layEdges_55 (by decide) ?_
        refine lv_iload_n hx hb dX1_layEdges_56 rfl (lv_at hl 3 rfl) ?_
        refine lv_imul hx hb dX1_layEdges_57 ?_
        refine lv_iconst (v := 1) hx hb dX1_layEdges_58 (by decide) ?_
        refine lv_iadd hx hb dX1_layEdges_59 ?_
        refine lv_aload_n hx hb dX1_layEdges_60 rfl (lv_at hl 1 rfl) ?_
        refine kk_gets 5 (by decide) F hw m_X1_layEdges_Cond_fieldLink_RX1_78_PerfectPew_Hash_OTHER_END_LPerfectPew_Hash_ dX1_layEdges_61 ?_
        refine lv_iload_n hx hb dX1_layEdges_64 rfl (lv_at hl 0 rfl) ?_
        obtain ⟨v10, ev10, hF1⟩ := kk_bind hF1
        refine kk_callI 0 0 hw (kk_runV (As := [.ref (ad 5), .int v7]) (rest := [.int ((2 * i2_5) + 1), .ref a1]) F hw hl.1 (c_X1_vertexOf l G cI cJ ad a0 a1 a8 a10 a12 x_reachedCount x_keyCount x_vertexCount x_seed 5 v7 N v10 ev10 (by decide) H.size) gX1_layEdges_X1_vertexOf rfl ⟨rfl, md_X1_vertexOf⟩ ⟨Nat.le_of_ble_eq_true rfl, Nat.le_of_ble_eq_true rfl⟩ ⟨Nat.le_of_ble_eq_true rfl, Nat.le_of_ble_eq_true rfl⟩ 0 1 rfl rfl rfl rfl (Nat.le_of_ble_eq_true rfl) dX1_layEdges_65) ⟨rfl, rfl⟩ [0] (by decide) rfl rfl (fun H locs hw => ?_)
        have hw : kk_wd G A s.heap [(a0, .inr (1, [.ref a1, .ref a8, .ref a10, .ref a12, .int x_reachedCount, .int x_keyCount, .int x_vertexCount, .int x_seed])), (a1, .inr (2, [.ref a2, .ref a4, .ref a6, .int v3.1, .int v3.2.1])), (a2, .inr (6, [.ref a3])), (a3, .inl (cI, 240, .inl v9.1)), (a4, .inr (6, [.ref a5])), (a5, .inl (cI, 361, .inl v9.2)), (a6, .inr (6, [.ref a7])), (a7, .inl (cI, 240, .inl f_ends_members)), (b0, .inr (4, [.ref b1, .int q_x_size])), (b1, .inr (6, [.ref b2])), (b2, .inl (cI, 120, .inl q_f_places))] H locs := hw
        obtain ⟨v11, ev11, hF1⟩ := kk_bind hF1
        refine kk_callV 0 0 hw (kk_runN (As := [.int ((2 * i2_5) + 1), .int v10]) (rest := []) F hw hl.1 (c_X2_assign l G cI cJ ad a1 a2 a3 a4 a5 a6 v3.1 v3.2.1 240 v9.1 361 v9.2 ((2 * i2_5) + 1) v10 N v11 ev11 H.size) gX1_layEdges_X2_assign_n75 rfl nl_50 m_X1_layEdges_Cond_initialized_yX2_assign_cls m_X1_layEdges_Cond_instanceMethod_yX2_assign m_X1_layEdges_Cond_selects_RX2_yX2_assign_yX2_assign md_X2_assign ⟨Nat.le_of_ble_eq_true rfl, Nat.le_of_ble_eq_true rfl⟩ ⟨Nat.le_of_ble_eq_true rfl, Nat.le_of_ble_eq_true rfl⟩ 1 2 rfl rfl rfl rfl (Nat.le_of_ble_eq_true rfl) dX1_layEdges_68) ⟨rfl, rfl⟩ [1, 2, 3, 4, 5] (by decide) rfl rfl (fun H locs hw => ?_)
        have hw : kk_wd G A s.heap [(a0, .inr (1, [.ref a1, .ref a8, .ref a10, .ref a12, .int x_reachedCount, .int x_keyCount, .int x_vertexCount, .int x_seed])), (a1, .inr (2, [.ref a2, .ref a4, .ref a6, .int v3.1, .int v3.2.1])), (a2, .inr (6, [.ref a3])), (a3, .inl (cI, 240, .inl v11.1)), (a4, .inr (6, [.ref a5])), (a5, .inl (cI, 361, .inl v11.2)), (a6, .inr (6, [.ref a7])), (a7, .inl (cI, 240, .inl f_ends_members)), (b0, .inr (4, [.ref b1, .int q_x_size])), (b1, .inr (6, [.ref b2])), (b2, .inl (cI, 120, .inl q_f_places))] H locs := hw
        refine lv_iinc (v := (i2_5 + 1)) (lv' := [(2, .int (i2_5 + 1)), (3, .int v7), (0, .ref a0), (1, .ref b0)]) hx hb dX1_layEdges_71 hl (k := 3) rfl rfl (by decide) rfl (fun ls hl => ?_)
        refine lv_goto (tgt := 19) hx hb dX1_layEdges_74 (by decide) ?_
        have hy := Option.some.inj hF1
        subst hy
        exact ih5 v11.1 v11.2 (i2_5 + 1) hI1 _ _ _ hw (lv_sub hl [2, 3, 0] rfl)
  exact hL5 N f_ends_groups v3.2.2 0 hz5 _ _ _ hw (lv_sub hl [1, 2, 0] rfl)
theorem ui_X1_reach_X1 : ∀ w ∈ u_ws RX1 TX1 8, w ∈ wsX1_reach := by decide +kernel
theorem m_X1_reach_Cond_fieldLink_RX1_29_PerfectPew_Graph_values_LPerfectPew_Row_ : Cond.fieldLink RX1 29 "PerfectPew$Graph" "values" "LPerfectPew$Row;" ∈ wsX1_reach := by decide +kernel
theorem m_X1_reach_Cond_fieldLink_RX1_32_PerfectPew_Graph_reached_LPerfectPew_Row_ : Cond.fieldLink RX1 32 "PerfectPew$Graph" "reached" "LPerfectPew$Row;" ∈ wsX1_reach := by decide +kernel
theorem m_X1_reach_Cond_fieldLink_RX1_94_PerfectPew_Graph_reachedCount_I_ : Cond.fieldLink RX1 94 "PerfectPew$Graph" "reachedCount" "I" ∈ wsX1_reach := by decide +kernel
theorem m_X1_reach_Cond_initialized_yX6_set_cls : Cond.initialized yX6_set.cls ∈ wsX1_reach := by decide +kernel
theorem m_X1_reach_Cond_instanceMethod_yX6_set : Cond.instanceMethod yX6_set ∈ wsX1_reach := by decide +kernel
theorem m_X1_reach_Cond_selects_RX6_yX6_set_yX6_set : Cond.selects RX6 yX6_set yX6_set ∈ wsX1_reach := by decide +kernel
set_option maxRecDepth 100000 in
set_option maxHeartbeats 4000000 in
theorem c_X1_reach (l : Launch) (G : va_G) (cI cJ : ClassId) (ad : Nat → Nat) (a0 a1 a8 a10 a11 a12 a13 : Nat) (x_reachedCount : Int32) (x_keyCount : Int32) (x_vertexCount : Int32) (x_seed : Int32) (f_values : Nat → Int32) (f_reached : Nat → Int32) (i1 : Int32) (i2 : Int32) (N : Nat) (x : (Int32 × (Nat → Int32) × (Nat → Int32))) (hF0 : F_X1_reach N x_reachedCount f_values f_reached i1 i2 = some x) : kk_V l yX1_reach wsX1_reach 1 0 0 22 [.ref a0, .int i1, .int i2] G cI cJ ad [(a0, .inr (1, [.ref a1, .ref a8, .ref a10, .ref a12, .int x_reachedCount, .int x_keyCount, .int x_vertexCount, .int x_seed])), (a10, .inr (6, [.ref a11])), (a11, .inl (cI, 360, .inl f_values)), (a12, .inr (6, [.ref a13])), (a13, .inl (cI, 360, .inl f_reached))] [(a0, .inr (1, [.ref a1, .ref a8, .ref a10, .ref a12, .int x.1, .int x_keyCount, .int x_vertexCount, .int x_seed])), (a10, .inr (6, [.ref a11])), (a11, .inl (cI, 360, .inl x.2.1)), (a12, .inr (6, [.ref a13])), (a13, .inl (cI, 360, .inl x.2.2))] := by
  refine kk_ofV (cc := cX1_reach) (maxL := 3) (by decide) rfl (Nat.le_of_ble_eq_true rfl) ?_
  intro p e s m below meth c A Q ls H locs hx hb hml hown hts hE hw hl hret
  have F : kk_at p m c cX1_reach 3 s _ wsX1_reach RX1 G cI cJ ad A := ⟨⟨hx, hb, hml, hown, hts⟩, hE⟩
  have hl : lv_has ls 3 [(0, .ref a0), (1, .int i1), (2, .int i2)] := hl
  unfold F_X1_reach at hF0
  refine lv_aload_n hx hb dX1_reach_0 rfl (lv_at hl 0 rfl) ?_
  refine kk_get (T := TX1) F hw ui_X1_reach_X1 0 rfl rfl 2 (by decide) m_X1_reach_Cond_fieldLink_RX1_29_PerfectPew_Graph_values_LPerfectPew_Row_ rfl dX1_reach_1 ?_
  refine lv_iload_n hx hb dX1_reach_4 rfl (lv_at hl 1 rfl) ?_
  refine lv_iload_n hx hb dX1_reach_5 rfl (lv_at hl 2 rfl) ?_
  obtain ⟨v1, ev1, hF0⟩ := kk_bind hF0
  refine kk_callV 0 0 hw (kk_runN (As := [.int i1, .int i2]) (rest := []) F hw hl.1 (c_X6_set l G cI cJ ad a10 a11 360 f_values i1 i2 N v1 ev1 H.size) gX1_reach_X6_set_n112 rfl nl_54 m_X1_reach_Cond_initialized_yX6_set_cls m_X1_reach_Cond_instanceMethod_yX6_set m_X1_reach_Cond_selects_RX6_yX6_set_yX6_set md_X6_set ⟨Nat.le_of_ble_eq_true rfl, Nat.le_of_ble_eq_true rfl⟩ ⟨Nat.le_of_ble_eq_true rfl, Nat.le_of_ble_eq_true rfl⟩ 1 6 rfl rfl rfl rfl (Nat.le_of_ble_eq_true rfl) dX1_reach_6) ⟨rfl, rfl⟩ [1, 2] (by decide) rfl rfl (fun H locs hw => ?_)
  have hw : kk_wd G A s.heap [(a0, .inr (1, [.ref a1, .ref a8, .ref a10, .ref a12, .int x_reachedCount, .int x_keyCount, .int x_vertexCount, .int x_seed])), (a10, .inr (6, [.ref a11])), (a11, .inl (cI, 360, .inl v1)), (a12, .inr (6, [.ref a13])), (a13, .inl (cI, 360, .inl f_reached))] H locs := hw
  refine lv_aload_n hx hb dX1_reach_9 rfl (lv_at hl 0 rfl) ?_
  refine kk_get (T := TX1) F hw ui_X1_reach_X1 0 rfl rfl 3 (by decide) m_X1_reach_Cond_fieldLink_RX1_32_PerfectPew_Graph_reached_LPerfectPew_Row_ rfl dX1_reach_10 ?_
  refine lv_aload_n hx hb dX1_reach_13 rfl (lv_at hl 0 rfl) ?_
  refine kk_get (T := TX1) F hw ui_X1_reach_X1 0 rfl rfl 4 (by decide) m_X1_reach_Cond_fieldLink_RX1_94_PerfectPew_Graph_reachedCount_I_ rfl dX1_reach_14 ?_
  refine lv_iload_n hx hb dX1_reach_17 rfl (lv_at hl 1 rfl) ?_
  obtain ⟨v2, ev2, hF0⟩ := kk_bind hF0
  refine kk_callV 0 0 hw (kk_runN (As := [.int x_reachedCount, .int i1]) (rest := []) F hw hl.1 (c_X6_set l G cI cJ ad a12 a13 360 f_reached x_reachedCount i1 N v2 ev2 H.size) gX1_reach_X6_set_n112 rfl nl_54 m_X1_reach_Cond_initialized_yX6_set_cls m_X1_reach_Cond_instanceMethod_yX6_set m_X1_reach_Cond_selects_RX6_yX6_set_yX6_set md_X6_set ⟨Nat.le_of_ble_eq_true rfl, Nat.le_of_ble_eq_true rfl⟩ ⟨Nat.le_of_ble_eq_true rfl, Nat.le_of_ble_eq_true rfl⟩ 3 6 rfl rfl rfl rfl (Nat.le_of_ble_eq_true rfl) dX1_reach_18) ⟨rfl, rfl⟩ [3, 4] (by decide) rfl rfl (fun H locs hw => ?_)
  have hw : kk_wd G A s.heap [(a0, .inr (1, [.ref a1, .ref a8, .ref a10, .ref a12, .int x_reachedCount, .int x_keyCount, .int x_vertexCount, .int x_seed])), (a10, .inr (6, [.ref a11])), (a11, .inl (cI, 360, .inl v1)), (a12, .inr (6, [.ref a13])), (a13, .inl (cI, 360, .inl v2))] H locs := hw
  refine lv_aload_n hx hb dX1_reach_21 rfl (lv_at hl 0 rfl) ?_
  refine lv_dup hx hb dX1_reach_22 rfl ?_
  refine kk_get (T := TX1) F hw ui_X1_reach_X1 0 rfl rfl 4 (by decide) m_X1_reach_Cond_fieldLink_RX1_94_PerfectPew_Graph_reachedCount_I_ rfl dX1_reach_23 ?_
  refine lv_iconst (v := 1) hx hb dX1_reach_26 (by decide) ?_
  refine lv_iadd hx hb dX1_reach_27 ?_
  refine kk_put F hw ui_X1_reach_X1 tyX1 tyX1_ok nmX1 0 rfl rfl 4 (by decide) m_X1_reach_Cond_fieldLink_RX1_94_PerfectPew_Graph_reachedCount_I_ rfl rfl rfl (Nat.le_of_ble_eq_true rfl) dX1_reach_28 (fun H locs hw => ?_)
  have hw : kk_wd G A s.heap [(a0, .inr (1, [.ref a1, .ref a8, .ref a10, .ref a12, .int (x_reachedCount + 1), .int x_keyCount, .int x_vertexCount, .int x_seed])), (a10, .inr (6, [.ref a11])), (a11, .inl (cI, 360, .inl v1)), (a12, .inr (6, [.ref a13])), (a13, .inl (cI, 360, .inl v2))] H locs := hw
  have hy := Option.some.inj hF0
  subst hy
  exact hret dX1_reach_31 (by decide) (by decide) hw
theorem ui_X1_walkOn_X1 : ∀ w ∈ u_ws RX1 TX1 8, w ∈ wsX1_walkOn := by decide +kernel
theorem m_X1_walkOn_Cond_fieldLink_RX1_14_PerfectPew_Graph_ends_LPerfectPew_Groups_ : Cond.fieldLink RX1 14 "PerfectPew$Graph" "ends" "LPerfectPew$Groups;" ∈ wsX1_walkOn := by decide +kernel
theorem m_X1_walkOn_Cond_fieldLink_RX1_25_PerfectPew_Graph_walked_LPerfectPew_Row_ : Cond.fieldLink RX1 25 "PerfectPew$Graph" "walked" "LPerfectPew$Row;" ∈ wsX1_walkOn := by decide +kernel
theorem m_X1_walkOn_Cond_fieldLink_RX1_29_PerfectPew_Graph_values_LPerfectPew_Row_ : Cond.fieldLink RX1 29 "PerfectPew$Graph" "values" "LPerfectPew$Row;" ∈ wsX1_walkOn := by decide +kernel
theorem m_X1_walkOn_Cond_fieldLink_RX1_41_PerfectPew_Graph_keyCount_I_ : Cond.fieldLink RX1 41 "PerfectPew$Graph" "keyCount" "I" ∈ wsX1_walkOn := by decide +kernel
theorem m_X1_walkOn_Cond_initialized_yX7_remainder_cls : Cond.initialized yX7_remainder.cls ∈ wsX1_walkOn := by decide +kernel
theorem m_X1_walkOn_Cond_static_yX7_remainder : Cond.static yX7_remainder ∈ wsX1_walkOn := by decide +kernel
theorem m_X1_walkOn_Cond_initialized_yX6_get_cls : Cond.initialized yX6_get.cls ∈ wsX1_walkOn := by decide +kernel
theorem m_X1_walkOn_Cond_instanceMethod_yX6_get : Cond.instanceMethod yX6_get ∈ wsX1_walkOn := by decide +kernel
theorem m_X1_walkOn_Cond_selects_RX6_yX6_get_yX6_get : Cond.selects RX6 yX6_get yX6_get ∈ wsX1_walkOn := by decide +kernel
theorem m_X1_walkOn_Cond_initialized_yX2_groupOf_cls : Cond.initialized yX2_groupOf.cls ∈ wsX1_walkOn := by decide +kernel
theorem m_X1_walkOn_Cond_instanceMethod_yX2_groupOf : Cond.instanceMethod yX2_groupOf ∈ wsX1_walkOn := by decide +kernel
theorem m_X1_walkOn_Cond_selects_RX2_yX2_groupOf_yX2_groupOf : Cond.selects RX2 yX2_groupOf yX2_groupOf ∈ wsX1_walkOn := by decide +kernel
theorem m_X1_walkOn_Cond_initialized_yX6_set_cls : Cond.initialized yX6_set.cls ∈ wsX1_walkOn := by decide +kernel
theorem m_X1_walkOn_Cond_instanceMethod_yX6_set : Cond.instanceMethod yX6_set ∈ wsX1_walkOn := by decide +kernel
theorem m_X1_walkOn_Cond_selects_RX6_yX6_set_yX6_set : Cond.selects RX6 yX6_set yX6_set ∈ wsX1_walkOn := by decide +kernel
theorem m_X1_walkOn_Cond_initialized_yX2_memberAt_cls : Cond.initialized yX2_memberAt.cls ∈ wsX1_walkOn := by decide +kernel
theorem m_X1_walkOn_Cond_instanceMethod_yX2_memberAt : Cond.instanceMethod yX2_memberAt ∈ wsX1_walkOn := by decide +kernel
theorem m_X1_walkOn_Cond_selects_RX2_yX2_memberAt_yX2_memberAt : Cond.selects RX2 yX2_memberAt yX2_memberAt ∈ wsX1_walkOn := by decide +kernel
theorem m_X1_walkOn_Cond_initialized_yX2_endOf_cls : Cond.initialized yX2_endOf.cls ∈ wsX1_walkOn := by decide +kernel
theorem m_X1_walkOn_Cond_instanceMethod_yX2_endOf : Cond.instanceMethod yX2_endOf ∈ wsX1_walkOn := by decide +kernel
theorem m_X1_walkOn_Cond_selects_RX2_yX2_endOf_yX2_endOf : Cond.selects RX2 yX2_endOf yX2_endOf ∈ wsX1_walkOn := by decide +kernel
theorem m_X1_walkOn_Cond_initialized_yX2_beginOf_cls : Cond.initialized yX2_beginOf.cls ∈ wsX1_walkOn := by decide +kernel
theorem m_X1_walkOn_Cond_instanceMethod_yX2_beginOf : Cond.instanceMethod yX2_beginOf ∈ wsX1_walkOn := by decide +kernel
theorem m_X1_walkOn_Cond_selects_RX2_yX2_beginOf_yX2_beginOf : Cond.selects RX2 yX2_beginOf yX2_beginOf ∈ wsX1_walkOn := by decide +kernel
set_option maxRecDepth 100000 in
set_option maxHeartbeats 4000000 in
theorem c_X1_walkOn (l : Launch) (G : va_G) (cI cJ : ClassId) (ad : Nat → Nat) (a0 a1 a2 a3 a4 a5 a6 a7 a8 a9 a10 a11 a12 a13 : Nat) (x_reachedCount : Int32) (x_keyCount : Int32) (x_vertexCount : Int32) (x_seed : Int32) (x_ends_thingCount : Int32) (x_ends_groupCount : Int32) (f_ends_groups : Nat → Int32) (f_ends_begins : Nat → Int32) (f_ends_members : Nat → Int32) (f_walked : Nat → Int32) (f_values : Nat → Int32) (f_reached : Nat → Int32) (i1 : Int32) (N : Nat) (x : (Int32 × Int32 × (Nat → Int32) × (Nat → Int32) × (Nat → Int32))) (hF0 : F_X1_walkOn N x_reachedCount x_keyCount f_ends_groups f_ends_begins f_ends_members f_walked f_values f_reached i1 = some x) : kk_I l yX1_walkOn wsX1_walkOn 2 0 0 44 [.ref a0, .int i1] G cI cJ ad [(a0, .inr (1, [.ref a1, .ref a8, .ref a10, .ref a12, .int x_reachedCount, .int x_keyCount, .int x_vertexCount, .int x_seed])), (a1, .inr (2, [.ref a2, .ref a4, .ref a6, .int x_ends_thingCount, .int x_ends_groupCount])), (a2, .inr (6, [.ref a3])), (a3, .inl (cI, 240, .inl f_ends_groups)), (a4, .inr (6, [.ref a5])), (a5, .inl (cI, 361, .inl f_ends_begins)), (a6, .inr (6, [.ref a7])), (a7, .inl (cI, 240, .inl f_ends_members)), (a8, .inr (6, [.ref a9])), (a9, .inl (cI, 120, .inl f_walked)), (a10, .inr (6, [.ref a11])), (a11, .inl (cI, 360, .inl f_values)), (a12, .inr (6, [.ref a13])), (a13, .inl (cI, 360, .inl f_reached))] x.1 [(a0, .inr (1, [.ref a1, .ref a8, .ref a10, .ref a12, .int x.2.1, .int x_keyCount, .int x_vertexCount, .int x_seed])), (a1, .inr (2, [.ref a2, .ref a4, .ref a6, .int x_ends_thingCount, .int x_ends_groupCount])), (a2, .inr (6, [.ref a3])), (a3, .inl (cI, 240, .inl f_ends_groups)), (a4, .inr (6, [.ref a5])), (a5, .inl (cI, 361, .inl f_ends_begins)), (a6, .inr (6, [.ref a7])), (a7, .inl (cI, 240, .inl f_ends_members)), (a8, .inr (6, [.ref a9])), (a9, .inl (cI, 120, .inl x.2.2.1)), (a10, .inr (6, [.ref a11])), (a11, .inl (cI, 360, .inl x.2.2.2.1)), (a12, .inr (6, [.ref a13])), (a13, .inl (cI, 360, .inl x.2.2.2.2))] := by
  refine kk_ofZ (cc := cX1_walkOn) (maxL := 6) (by decide) rfl (Nat.le_of_ble_eq_true rfl) ?_
  intro p e s m below meth c A Q ls H locs hx hb hml hown hts hE hw hl hret
  have F : kk_at p m c cX1_walkOn 6 s _ wsX1_walkOn RX1 G cI cJ ad A := ⟨⟨hx, hb, hml, hown, hts⟩, hE⟩
  have hl : lv_has ls 6 [(0, .ref a0), (1, .int i1)] := hl
  unfold F_X1_walkOn at hF0
  have hJ1 : ∀ (x_reachedCount_1 : Int32) (f_walked_1 : Nat → Int32) (f_values_1 : Nat → Int32) (f_reached_1 : Nat → Int32), J_X1_walkOn_119 N x_reachedCount_1 f_walked_1 f_values_1 f_reached_1 = some x → ∀ (H : Heap) (locs : List Loc) (ls : Array Slot), kk_wd G A s.heap [(a0, .inr (1, [.ref a1, .ref a8, .ref a10, .ref a12, .int x_reachedCount_1, .int x_keyCount, .int x_vertexCount, .int x_seed])), (a1, .inr (2, [.ref a2, .ref a4, .ref a6, .int x_ends_thingCount, .int x_ends_groupCount])), (a2, .inr (6, [.ref a3])), (a3, .inl (cI, 240, .inl f_ends_groups)), (a4, .inr (6, [.ref a5])), (a5, .inl (cI, 361, .inl f_ends_begins)), (a6, .inr (6, [.ref a7])), (a7, .inl (cI, 240, .inl f_ends_members)), (a8, .inr (6, [.ref a9])), (a9, .inl (cI, 120, .inl f_walked_1)), (a10, .inr (6, [.ref a11])), (a11, .inl (cI, 360, .inl f_values_1)), (a12, .inr (6, [.ref a13])), (a13, .inl (cI, 360, .inl f_reached_1))] H locs → lv_has ls 6 [] → W p l e (kk_rm 2 0 0 44) s m ([.ref a0, .int i1] : List Value).toArray below meth c H locs 0 0 Q (F0 m 119 ls []) := by
    intro x_reachedCount_1 f_walked_1 f_values_1 f_reached_1 hF0 H locs ls hw hl
    unfold J_X1_walkOn_119 at hF0
    refine lv_iconst (v := 1) hx hb dX1_walkOn_119 (by decide) ?_
    have hy := Option.some.inj hF0
    subst hy
    exact hret dX1_walkOn_120 (by decide) (by decide) (Or.inr rfl) hw
  have hJ2 : ∀ (x_reachedCount_2 : Int32) (f_walked_2 : Nat → Int32) (f_values_2 : Nat → Int32) (f_reached_2 : Nat → Int32), J_X1_walkOn_82 N x_reachedCount_2 f_walked_2 f_values_2 f_reached_2 = some x → ∀ (H : Heap) (locs : List Loc) (ls : Array Slot), kk_wd G A s.heap [(a0, .inr (1, [.ref a1, .ref a8, .ref a10, .ref a12, .int x_reachedCount_2, .int x_keyCount, .int x_vertexCount, .int x_seed])), (a1, .inr (2, [.ref a2, .ref a4, .ref a6, .int x_ends_thingCount, .int x_ends_groupCount])), (a2, .inr (6, [.ref a3])), (a3, .inl (cI, 240, .inl f_ends_groups)), (a4, .inr (6, [.ref a5])), (a5, .inl (cI, 361, .inl f_ends_begins)), (a6, .inr (6, [.ref a7])), (a7, .inl (cI, 240, .inl f_ends_members)), (a8, .inr (6, [.ref a9])), (a9, .inl (cI, 120, .inl f_walked_2)), (a10, .inr (6, [.ref a11])), (a11, .inl (cI, 360, .inl f_values_2)), (a12, .inr (6, [.ref a13])), (a13, .inl (cI, 360, .inl f_reached_2))] H locs → lv_has ls 6 [] → W p l e (kk_rm 2 0 0 44) s m ([.ref a0, .int i1] : List Value).toArray below meth c H locs 0 0 Q (F0 m 82 ls []) := by
    intro x_reachedCount_2 f_walked_2 f_values_2 f_reached_2 hF0 H locs ls hw hl
    unfold J_X1_walkOn_82 at hF0
    refine lv_iconst (v := 0) hx hb dX1_walkOn_82 (by decide) ?_
    have hy := Option.some.inj hF0
    subst hy
    exact hret dX1_walkOn_83 (by decide) (by decide) (Or.inl rfl) hw
  refine lv_aload_n hx hb dX1_walkOn_0 rfl (lv_at hl 0 rfl) ?_
  refine kk_get (T := TX1) F hw ui_X1_walkOn_X1 0 rfl rfl 0 (by decide) m_X1_walkOn_Cond_fieldLink_RX1_14_PerfectPew_Graph_ends_LPerfectPew_Groups_ rfl dX1_walkOn_1 ?_
  refine lv_iload_n hx hb dX1_walkOn_4 rfl (lv_at hl 1 rfl) ?_
  obtain ⟨v3, ev3, hF0⟩ := kk_bind hF0
  refine kk_callI 0 0 hw (kk_runN (As := [.int i1]) (rest := []) F hw hl.1 (c_X2_beginOf l G cI cJ ad a1 a2 a4 a5 a6 x_ends_thingCount x_ends_groupCount 361 f_ends_begins i1 N v3 ev3 H.size) gX1_walkOn_X2_beginOf_n103 rfl nl_55 m_X1_walkOn_Cond_initialized_yX2_beginOf_cls m_X1_walkOn_Cond_instanceMethod_yX2_beginOf m_X1_walkOn_Cond_selects_RX2_yX2_beginOf_yX2_beginOf md_X2_beginOf ⟨Nat.le_of_ble_eq_true rfl, Nat.le_of_ble_eq_true rfl⟩ ⟨Nat.le_of_ble_eq_true rfl, Nat.le_of_ble_eq_true rfl⟩ 1 2 rfl rfl rfl rfl (Nat.le_of_ble_eq_true rfl) dX1_walkOn_5) ⟨rfl, rfl⟩ [1, 4, 5] (by decide) rfl rfl (fun H locs hw => ?_)
  have hw : kk_wd G A s.heap [(a0, .inr (1, [.ref a1, .ref a8, .ref a10, .ref a12, .int x_reachedCount, .int x_keyCount, .int x_vertexCount, .int x_seed])), (a1, .inr (2, [.ref a2, .ref a4, .ref a6, .int x_ends_thingCount, .int x_ends_groupCount])), (a2, .inr (6, [.ref a3])), (a3, .inl (cI, 240, .inl f_ends_groups)), (a4, .inr (6, [.ref a5])), (a5, .inl (cI, 361, .inl f_ends_begins)), (a6, .inr (6, [.ref a7])), (a7, .inl (cI, 240, .inl f_ends_members)), (a8, .inr (6, [.ref a9])), (a9, .inl (cI, 120, .inl f_walked)), (a10, .inr (6, [.ref a11])), (a11, .inl (cI, 360, .inl f_values)), (a12, .inr (6, [.ref a13])), (a13, .inl (cI, 360, .inl f_reached))] H locs := hw
  refine lv_istore_n (lv' := [(2, .int v3), (0, .ref a0), (1, .int i1)]) hx hb dX1_walkOn_8 rfl hl (by decide) rfl (fun ls hl => ?_)
  obtain ⟨z4, hz7, hF0⟩ := kk_bind hF0
  have hL7 : ∀ (n7 : Nat) (x_reachedCount_7 : Int32) (f_walked_7 : Nat → Int32) (f_values_7 : Nat → Int32) (f_reached_7 : Nat → Int32) (i2_7 : Int32), kk_iter (fun (σ : (Int32 × (Nat → Int32) × (Nat → Int32) × (Nat → Int32) × Int32)) => L_X1_walkOn_9 N x_keyCount f_ends_groups f_ends_begins f_ends_members i1 σ.1 σ.2.1 σ.2.2.1 σ.2.2.2.1 σ.2.2.2.2) n7 (x_reachedCount_7, f_walked_7, f_values_7, f_reached_7, i2_7) = some z4 → ∀ (H : Heap) (locs : List Loc) (ls : Array Slot), kk_wd G A s.heap [(a0, .inr (1, [.ref a1, .ref a8, .ref a10, .ref a12, .int x_reachedCount_7, .int x_keyCount, .int x_vertexCount, .int x_seed])), (a1, .inr (2, [.ref a2, .ref a4, .ref a6, .int x_ends_thingCount, .int x_ends_groupCount])), (a2, .inr (6, [.ref a3])), (a3, .inl (cI, 240, .inl f_ends_groups)), (a4, .inr (6, [.ref a5])), (a5, .inl (cI, 361, .inl f_ends_begins)), (a6, .inr (6, [.ref a7])), (a7, .inl (cI, 240, .inl f_ends_members)), (a8, .inr (6, [.ref a9])), (a9, .inl (cI, 120, .inl f_walked_7)), (a10, .inr (6, [.ref a11])), (a11, .inl (cI, 360, .inl f_values_7)), (a12, .inr (6, [.ref a13])), (a13, .inl (cI, 360, .inl f_reached_7))] H locs → lv_has ls 6 [(0, .ref a0), (1, .int i1), (2, .int i2_7)] → W p l e (kk_rm 2 0 0 44) s m ([.ref a0, .int i1] : List Value).toArray below meth c H locs 0 0 Q (F0 m 9 ls []) := by
    intro n7
    induction n7 with
    | zero => intro x_reachedCount_7 f_walked_7 f_values_7 f_reached_7 i2_7 h; exact kk_iter0 h
    | succ n7 ih7 =>
      intro x_reachedCount_7 f_walked_7 f_values_7 f_reached_7 i2_7 hq H locs ls hw hl
      obtain ⟨y7, hF1, hI1⟩ := kk_iterS hq
      have hF1 : L_X1_walkOn_9 N x_keyCount f_ends_groups f_ends_begins f_ends_members i1 x_reachedCount_7 f_walked_7 f_values_7 f_reached_7 i2_7 = some y7 := hF1
      unfold L_X1_walkOn_9 at hF1
      have hJ8 : ∀ (x_reachedCount_8 : Int32) (f_walked_8 : Nat → Int32) (f_values_8 : Nat → Int32) (f_reached_8 : Nat → Int32) (i2_8 : Int32), J_X1_walkOn_113 N x_reachedCount_8 f_walked_8 f_values_8 f_reached_8 i2_8 = some y7 → ∀ (H : Heap) (locs : List Loc) (ls : Array Slot), kk_wd G A s.heap [(a0, .inr (1, [.ref a1, .ref a8, .ref a10, .ref a12, .int x_reachedCount_8, .int x_keyCount, .int x_vertexCount, .int x_seed])), (a1, .inr (2, [.ref a2, .ref a4, .ref a6, .int x_ends_thingCount, .int x_ends_groupCount])), (a2, .inr (6, [.ref a3])), (a3, .inl (cI, 240, .inl f_ends_groups)), (a4, .inr (6, [.ref a5])), (a5, .inl (cI, 361, .inl f_ends_begins)), (a6, .inr (6, [.ref a7])), (a7, .inl (cI, 240, .inl f_ends_members)), (a8, .inr (6, [.ref a9])), (a9, .inl (cI, 120, .inl f_walked_8)), (a10, .inr (6, [.ref a11])), (a11, .inl (cI, 360, .inl f_values_8)), (a12, .inr (6, [.ref a13])), (a13, .inl (cI, 360, .inl f_reached_8))] H locs → lv_has ls 6 [(0, .ref a0), (1, .int i1), (2, .int i2_8)] → W p l e (kk_rm 2 0 0 44) s m ([.ref a0, .int i1] : List Value).toArray below meth c H locs 0 0 Q (F0 m 113 ls []) := by
        intro x_reachedCount_8 f_walked_8 f_values_8 f_reached_8 i2_8 hF1 H locs ls hw hl
        unfold J_X1_walkOn_113 at hF1
        refine lv_iinc (v := (i2_8 + 1)) (lv' := [(2, .int (i2_8 + 1)), (0, .ref a0), (1, .int i1)]) hx hb dX1_walkOn_113 hl (k := 2) rfl rfl (by decide) rfl (fun ls hl => ?_)
        refine lv_goto (tgt := 9) hx hb dX1_walkOn_116 (by decide) ?_
        have hy := Option.some.inj hF1
        subst hy
        exact ih7 x_reachedCount_8 f_walked_8 f_values_8 f_reached_8 (i2_8 + 1) hI1 _ _ _ hw (lv_sub hl [1, 2, 0] rfl)
      refine lv_iload_n hx hb dX1_walkOn_9 rfl (lv_at hl 2 rfl) ?_
      refine lv_aload_n hx hb dX1_walkOn_10 rfl (lv_at hl 0 rfl) ?_
      refine kk_get (T := TX1) F hw ui_X1_walkOn_X1 0 rfl rfl 0 (by decide) m_X1_walkOn_Cond_fieldLink_RX1_14_PerfectPew_Graph_ends_LPerfectPew_Groups_ rfl dX1_walkOn_11 ?_
      refine lv_iload_n hx hb dX1_walkOn_14 rfl (lv_at hl 1 rfl) ?_
      obtain ⟨v9, ev9, hF1⟩ := kk_bind hF1
      refine kk_callI 0 0 hw (kk_runN (As := [.int i1]) (rest := [.int i2_7]) F hw hl.1 (c_X2_endOf l G cI cJ ad a1 a2 a4 a5 a6 x_ends_thingCount x_ends_groupCount 361 f_ends_begins i1 N v9 ev9 H.size) gX1_walkOn_X2_endOf_n106 rfl nl_56 m_X1_walkOn_Cond_initialized_yX2_endOf_cls m_X1_walkOn_Cond_instanceMethod_yX2_endOf m_X1_walkOn_Cond_selects_RX2_yX2_endOf_yX2_endOf md_X2_endOf ⟨Nat.le_of_ble_eq_true rfl, Nat.le_of_ble_eq_true rfl⟩ ⟨Nat.le_of_ble_eq_true rfl, Nat.le_of_ble_eq_true rfl⟩ 1 2 rfl rfl rfl rfl (Nat.le_of_ble_eq_true rfl) dX1_walkOn_15) ⟨rfl, rfl⟩ [1, 4, 5] (by decide) rfl rfl (fun H locs hw => ?_)
      have hw : kk_wd G A s.heap [(a0, .inr (1, [.ref a1, .ref a8, .ref a10, .ref a12, .int x_reachedCount_7, .int x_keyCount, .int x_vertexCount, .int x_seed])), (a1, .inr (2, [.ref a2, .ref a4, .ref a6, .int x_ends_thingCount, .int x_ends_groupCount])), (a2, .inr (6, [.ref a3])), (a3, .inl (cI, 240, .inl f_ends_groups)), (a4, .inr (6, [.ref a5])), (a5, .inl (cI, 361, .inl f_ends_begins)), (a6, .inr (6, [.ref a7])), (a7, .inl (cI, 240, .inl f_ends_members)), (a8, .inr (6, [.ref a9])), (a9, .inl (cI, 120, .inl f_walked_7)), (a10, .inr (6, [.ref a11])), (a11, .inl (cI, 360, .inl f_values_7)), (a12, .inr (6, [.ref a13])), (a13, .inl (cI, 360, .inl f_reached_7))] H locs := hw
      refine lv_icmp_ge (tgt := 119) hx hb dX1_walkOn_18 (by decide) (fun c10 => ?_) (fun c10 => ?_)
      · have hF1 := (if_pos c10).symm.trans hF1
        have hy := Option.some.inj hF1
        subst hy
        have hz := Option.some.inj hI1
        subst hz
        exact hJ1 x_reachedCount_7 f_walked_7 f_values_7 f_reached_7 hF0 _ _ _ hw (lv_sub hl [] rfl)
      · have hF1 := (if_neg c10).symm.trans hF1
        refine lv_aload_n hx hb dX1_walkOn_21 rfl (lv_at hl 0 rfl) ?_
        refine kk_get (T := TX1) F hw ui_X1_walkOn_X1 0 rfl rfl 0 (by decide) m_X1_walkOn_Cond_fieldLink_RX1_14_PerfectPew_Graph_ends_LPerfectPew_Groups_ rfl dX1_walkOn_22 ?_
        refine lv_iload_n hx hb dX1_walkOn_25 rfl (lv_at hl 2 rfl) ?_
        obtain ⟨v11, ev11, hF1⟩ := kk_bind hF1
        refine kk_callI 0 0 hw (kk_runN (As := [.int i2_7]) (rest := []) F hw hl.1 (c_X2_memberAt l G cI cJ ad a1 a2 a4 a6 a7 x_ends_thingCount x_ends_groupCount 240 f_ends_members i2_7 N v11 ev11 H.size) gX1_walkOn_X2_memberAt_n109 rfl nl_57 m_X1_walkOn_Cond_initialized_yX2_memberAt_cls m_X1_walkOn_Cond_instanceMethod_yX2_memberAt m_X1_walkOn_Cond_selects_RX2_yX2_memberAt_yX2_memberAt md_X2_memberAt ⟨Nat.le_of_ble_eq_true rfl, Nat.le_of_ble_eq_true rfl⟩ ⟨Nat.le_of_ble_eq_true rfl, Nat.le_of_ble_eq_true rfl⟩ 1 2 rfl rfl rfl rfl (Nat.le_of_ble_eq_true rfl) dX1_walkOn_26) ⟨rfl, rfl⟩ [1, 6, 7] (by decide) rfl rfl (fun H locs hw => ?_)
        have hw : kk_wd G A s.heap [(a0, .inr (1, [.ref a1, .ref a8, .ref a10, .ref a12, .int x_reachedCount_7, .int x_keyCount, .int x_vertexCount, .int x_seed])), (a1, .inr (2, [.ref a2, .ref a4, .ref a6, .int x_ends_thingCount, .int x_ends_groupCount])), (a2, .inr (6, [.ref a3])), (a3, .inl (cI, 240, .inl f_ends_groups)), (a4, .inr (6, [.ref a5])), (a5, .inl (cI, 361, .inl f_ends_begins)), (a6, .inr (6, [.ref a7])), (a7, .inl (cI, 240, .inl f_ends_members)), (a8, .inr (6, [.ref a9])), (a9, .inl (cI, 120, .inl f_walked_7)), (a10, .inr (6, [.ref a11])), (a11, .inl (cI, 360, .inl f_values_7)), (a12, .inr (6, [.ref a13])), (a13, .inl (cI, 360, .inl f_reached_7))] H locs := hw
        refine lv_istore_n (lv' := [(3, .int v11), (0, .ref a0), (1, .int i1), (2, .int i2_7)]) hx hb dX1_walkOn_29 rfl hl (by decide) rfl (fun ls hl => ?_)
        refine lv_iload_n hx hb dX1_walkOn_30 rfl (lv_at hl 0 rfl) ?_
        refine lv_iconst (v := 1) hx hb dX1_walkOn_31 (by decide) ?_
        refine lv_ishr hx hb dX1_walkOn_32 ?_
        refine lv_istore (lv' := [(4, .int (v11 >>> (1 &&& 31))), (3, .int v11), (0, .ref a0), (1, .int i1), (2, .int i2_7)]) hx hb dX1_walkOn_33 hl (by decide) rfl (fun ls hl => ?_)
        refine lv_aload_n hx hb dX1_walkOn_35 rfl (lv_at hl 2 rfl) ?_
        refine kk_get (T := TX1) F hw ui_X1_walkOn_X1 0 rfl rfl 1 (by decide) m_X1_walkOn_Cond_fieldLink_RX1_25_PerfectPew_Graph_walked_LPerfectPew_Row_ rfl dX1_walkOn_36 ?_
        refine lv_iload hx hb dX1_walkOn_39 (lv_at hl 0 rfl) ?_
        obtain ⟨v12, ev12, hF1⟩ := kk_bind hF1
        refine kk_callI 0 0 hw (kk_runN (As := [.int (v11 >>> (1 &&& 31))]) (rest := []) F hw hl.1 (c_X6_get l G cI cJ ad a8 a9 120 f_walked_7 (v11 >>> (1 &&& 31)) N v12 ev12 H.size) gX1_walkOn_X6_get_n87 rfl nl_53 m_X1_walkOn_Cond_initialized_yX6_get_cls m_X1_walkOn_Cond_instanceMethod_yX6_get m_X1_walkOn_Cond_selects_RX6_yX6_get_yX6_get md_X6_get ⟨Nat.le_of_ble_eq_true rfl, Nat.le_of_ble_eq_true rfl⟩ ⟨Nat.le_of_ble_eq_true rfl, Nat.le_of_ble_eq_true rfl⟩ 8 6 rfl rfl rfl rfl (Nat.le_of_ble_eq_true rfl) dX1_walkOn_41) ⟨rfl, rfl⟩ [8, 9] (by decide) rfl rfl (fun H locs hw => ?_)
        have hw : kk_wd G A s.heap [(a0, .inr (1, [.ref a1, .ref a8, .ref a10, .ref a12, .int x_reachedCount_7, .int x_keyCount, .int x_vertexCount, .int x_seed])), (a1, .inr (2, [.ref a2, .ref a4, .ref a6, .int x_ends_thingCount, .int x_ends_groupCount])), (a2, .inr (6, [.ref a3])), (a3, .inl (cI, 240, .inl f_ends_groups)), (a4, .inr (6, [.ref a5])), (a5, .inl (cI, 361, .inl f_ends_begins)), (a6, .inr (6, [.ref a7])), (a7, .inl (cI, 240, .inl f_ends_members)), (a8, .inr (6, [.ref a9])), (a9, .inl (cI, 120, .inl f_walked_7)), (a10, .inr (6, [.ref a11])), (a11, .inl (cI, 360, .inl f_values_7)), (a12, .inr (6, [.ref a13])), (a13, .inl (cI, 360, .inl f_reached_7))] H locs := hw
        refine lv_if_ne (tgt := 113) hx hb dX1_walkOn_44 (by decide) (fun c13 => ?_) (fun c13 => ?_)
        · have hF1 := (if_neg c13).symm.trans hF1
          exact hJ8 x_reachedCount_7 f_walked_7 f_values_7 f_reached_7 i2_7 hF1 _ _ _ hw (lv_sub hl [2, 3, 4] rfl)
        · have hF1 := (if_pos c13).symm.trans hF1
          refine lv_aload_n hx hb dX1_walkOn_47 rfl (lv_at hl 2 rfl) ?_
          refine kk_get (T := TX1) F hw ui_X1_walkOn_X1 0 rfl rfl 1 (by decide) m_X1_walkOn_Cond_fieldLink_RX1_25_PerfectPew_Graph_walked_LPerfectPew_Row_ rfl dX1_walkOn_48 ?_
          refine lv_iload hx hb dX1_walkOn_51 (lv_at hl 0 rfl) ?_
          refine lv_iconst (v := 1) hx hb dX1_walkOn_53 (by decide) ?_
          obtain ⟨v14, ev14, hF1⟩ := kk_bind hF1
          refine kk_callV 0 0 hw (kk_runN (As := [.int (v11 >>> (1 &&& 31)), .int 1]) (rest := []) F hw hl.1 (c_X6_set l G cI cJ ad a8 a9 120 f_walked_7 (v11 >>> (1 &&& 31)) 1 N v14 ev14 H.size) gX1_walkOn_X6_set_n112 rfl nl_54 m_X1_walkOn_Cond_initialized_yX6_set_cls m_X1_walkOn_Cond_instanceMethod_yX6_set m_X1_walkOn_Cond_selects_RX6_yX6_set_yX6_set md_X6_set ⟨Nat.le_of_ble_eq_true rfl, Nat.le_of_ble_eq_true rfl⟩ ⟨Nat.le_of_ble_eq_true rfl, Nat.le_of_ble_eq_true rfl⟩ 8 6 rfl rfl rfl rfl (Nat.le_of_ble_eq_true rfl) dX1_walkOn_54) ⟨rfl, rfl⟩ [8, 9] (by decide) rfl rfl (fun H locs hw => ?_)
          have hw : kk_wd G A s.heap [(a0, .inr (1, [.ref a1, .ref a8, .ref a10, .ref a12, .int x_reachedCount_7, .int x_keyCount, .int x_vertexCount, .int x_seed])), (a1, .inr (2, [.ref a2, .ref a4, .ref a6, .int x_ends_thingCount, .int x_ends_groupCount])), (a2, .inr (6, [.ref a3])), (a3, .inl (cI, 240, .inl f_ends_groups)), (a4, .inr (6, [.ref a5])), (a5, .inl (cI, 361, .inl f_ends_begins)), (a6, .inr (6, [.ref a7])), (a7, .inl (cI, 240, .inl f_ends_members)), (a8, .inr (6, [.ref a9])), (a9, .inl (cI, 120, .inl v14)), (a10, .inr (6, [.ref a11])), (a11, .inl (cI, 360, .inl f_values_7)), (a12, .inr (6, [.ref a13])), (a13, .inl (cI, 360, .inl f_reached_7))] H locs := hw
          refine lv_aload_n hx hb dX1_walkOn_57 rfl (lv_at hl 2 rfl) ?_
          refine kk_get (T := TX1) F hw ui_X1_walkOn_X1 0 rfl rfl 0 (by decide) m_X1_walkOn_Cond_fieldLink_RX1_14_PerfectPew_Graph_ends_LPerfectPew_Groups_ rfl dX1_walkOn_58 ?_
          refine lv_iload_n hx hb dX1_walkOn_61 rfl (lv_at hl 1 rfl) ?_
          refine lv_iconst (v := 1) hx hb dX1_walkOn_62 (by decide) ?_
          refine lv_ixor hx hb dX1_walkOn_63 ?_
          obtain ⟨v15, ev15, hF1⟩ := kk_bind hF1
          refine kk_callI 0 0 hw (kk_runN (As := [.int (v11 ^^^ 1)]) (rest := []) F hw hl.1 (c_X2_groupOf l G cI cJ ad a1 a2 a3 a4 a6 x_ends_thingCount x_ends_groupCount 240 f_ends_groups (v11 ^^^ 1) N v15 ev15 H.size) gX1_walkOn_X2_groupOf_n115 rfl nl_58 m_X1_walkOn_Cond_initialized_yX2_groupOf_cls m_X1_walkOn_Cond_instanceMethod_yX2_groupOf m_X1_walkOn_Cond_selects_RX2_yX2_groupOf_yX2_groupOf md_X2_groupOf ⟨Nat.le_of_ble_eq_true rfl, Nat.le_of_ble_eq_true rfl⟩ ⟨Nat.le_of_ble_eq_true rfl, Nat.le_of_ble_eq_true rfl⟩ 1 2 rfl rfl rfl rfl (Nat.le_of_ble_eq_true rfl) dX1_walkOn_64) ⟨rfl, rfl⟩ [1, 2, 3] (by decide) rfl rfl (fun H locs hw => ?_)
          have hw : kk_wd G A s.heap [(a0, .inr (1, [.ref a1, .ref a8, .ref a10, .ref a12, .int x_reachedCount_7, .int x_keyCount, .int x_vertexCount, .int x_seed])), (a1, .inr (2, [.ref a2, .ref a4, .ref a6, .int x_ends_thingCount, .int x_ends_groupCount])), (a2, .inr (6, [.ref a3])), (a3, .inl (cI, 240, .inl f_ends_groups)), (a4, .inr (6, [.ref a5])), (a5, .inl (cI, 361, .inl f_ends_begins)), (a6, .inr (6, [.ref a7])), (a7, .inl (cI, 240, .inl f_ends_members)), (a8, .inr (6, [.ref a9])), (a9, .inl (cI, 120, .inl v14)), (a10, .inr (6, [.ref a11])), (a11, .inl (cI, 360, .inl f_values_7)), (a12, .inr (6, [.ref a13])), (a13, .inl (cI, 360, .inl f_reached_7))] H locs := hw
          refine lv_istore (lv' := [(5, .int v15), (4, .int (v11 >>> (1 &&& 31))), (3, .int v11), (0, .ref a0), (1, .int i1), (2, .int i2_7)]) hx hb dX1_walkOn_67 hl (by decide) rfl (fun ls hl => ?_)
          refine lv_aload_n hx hb dX1_walkOn_69 rfl (lv_at hl 3 rfl) ?_
          refine kk_get (T := TX1) F hw ui_X1_walkOn_X1 0 rfl rfl 2 (by decide) m_X1_walkOn_Cond_fieldLink_RX1_29_PerfectPew_Graph_values_LPerfectPew_Row_ rfl dX1_walkOn_70 ?_
          refine lv_iload hx hb dX1_walkOn_73 (lv_at hl 0 rfl) ?_
          obtain ⟨v16, ev16, hF1⟩ := kk_bind hF1
          refine kk_callI 0 0 hw (kk_runN (As := [.int v15]) (rest := []) F hw hl.1 (c_X6_get l G cI cJ ad a10 a11 360 f_values_7 v15 N v16 ev16 H.size) gX1_walkOn_X6_get_n87 rfl nl_53 m_X1_walkOn_Cond_initialized_yX6_get_cls m_X1_walkOn_Cond_instanceMethod_yX6_get m_X1_walkOn_Cond_selects_RX6_yX6_get_yX6_get md_X6_get ⟨Nat.le_of_ble_eq_true rfl, Nat.le_of_ble_eq_true rfl⟩ ⟨Nat.le_of_ble_eq_true rfl, Nat.le_of_ble_eq_true rfl⟩ 10 6 rfl rfl rfl rfl (Nat.le_of_ble_eq_true rfl) dX1_walkOn_75) ⟨rfl, rfl⟩ [10, 11] (by decide) rfl rfl (fun H locs hw => ?_)
          have hw : kk_wd G A s.heap [(a0, .inr (1, [.ref a1, .ref a8, .ref a10, .ref a12, .int x_reachedCount_7, .int x_keyCount, .int x_vertexCount, .int x_seed])), (a1, .inr (2, [.ref a2, .ref a4, .ref a6, .int x_ends_thingCount, .int x_ends_groupCount])), (a2, .inr (6, [.ref a3])), (a3, .inl (cI, 240, .inl f_ends_groups)), (a4, .inr (6, [.ref a5])), (a5, .inl (cI, 361, .inl f_ends_begins)), (a6, .inr (6, [.ref a7])), (a7, .inl (cI, 240, .inl f_ends_members)), (a8, .inr (6, [.ref a9])), (a9, .inl (cI, 120, .inl v14)), (a10, .inr (6, [.ref a11])), (a11, .inl (cI, 360, .inl f_values_7)), (a12, .inr (6, [.ref a13])), (a13, .inl (cI, 360, .inl f_reached_7))] H locs := hw
          refine lv_iconst (v := (-1)) hx hb dX1_walkOn_78 (by decide) ?_
          refine lv_icmp_eq (tgt := 84) hx hb dX1_walkOn_79 (by decide) (fun c17 => ?_) (fun c17 => ?_)
          · have hF1 := (if_pos c17).symm.trans hF1
            refine lv_aload_n hx hb dX1_walkOn_84 rfl (lv_at hl 3 rfl) ?_
            refine lv_iload hx hb dX1_walkOn_85 (lv_at hl 0 rfl) ?_
            refine lv_iload hx hb dX1_walkOn_87 (lv_at hl 1 rfl) ?_
            refine lv_aload_n hx hb dX1_walkOn_89 rfl (lv_at hl 3 rfl) ?_
            refine kk_get (T := TX1) F hw ui_X1_walkOn_X1 0 rfl rfl 2 (by decide) m_X1_walkOn_Cond_fieldLink_RX1_29_PerfectPew_Graph_values_LPerfectPew_Row_ rfl dX1_walkOn_90 ?_
            refine lv_iload_n hx hb dX1_walkOn_93 rfl (lv_at hl 4 rfl) ?_
            obtain ⟨v18, ev18, hF1⟩ := kk_bind hF1
            refine kk_callI 0 0 hw (kk_runN (As := [.int i1]) (rest := [.int (v11 >>> (1 &&& 31)), .int v15, .ref a0]) F hw hl.1 (c_X6_get l G cI cJ ad a10 a11 360 f_values_7 i1 N v18 ev18 H.size) gX1_walkOn_X6_get_n87 rfl nl_53 m_X1_walkOn_Cond_initialized_yX6_get_cls m_X1_walkOn_Cond_instanceMethod_yX6_get m_X1_walkOn_Cond_selects_RX6_yX6_get_yX6_get md_X6_get ⟨Nat.le_of_ble_eq_true rfl, Nat.le_of_ble_eq_true rfl⟩ ⟨Nat.le_of_ble_eq_true rfl, Nat.le_of_ble_eq_true rfl⟩ 10 6 rfl rfl rfl rfl (Nat.le_of_ble_eq_true rfl) dX1_walkOn_94) ⟨rfl, rfl⟩ [10, 11] (by decide) rfl rfl (fun H locs hw => ?_)
            have hw : kk_wd G A s.heap [(a0, .inr (1, [.ref a1, .ref a8, .ref a10, .ref a12, .int x_reachedCount_7, .int x_keyCount, .int x_vertexCount, .int x_seed])), (a1, .inr (2, [.ref a2, .ref a4, .ref a6, .int x_ends_thingCount, .int x_ends_groupCount])), (a2, .inr (6, [.ref a3])), (a3, .inl (cI, 240, .inl f_ends_groups)), (a4, .inr (6, [.ref a5])), (a5, .inl (cI, 361, .inl f_ends_begins)), (a6, .inr (6, [.ref a7])), (a7, .inl (cI, 240, .inl f_ends_members)), (a8, .inr (6, [.ref a9])), (a9, .inl (cI, 120, .inl v14)), (a10, .inr (6, [.ref a11])), (a11, .inl (cI, 360, .inl f_values_7)), (a12, .inr (6, [.ref a13])), (a13, .inl (cI, 360, .inl f_reached_7))] H locs := hw
            refine lv_isub hx hb dX1_walkOn_97 ?_
            refine lv_aload_n hx hb dX1_walkOn_98 rfl (lv_at hl 3 rfl) ?_
            refine kk_get (T := TX1) F hw ui_X1_walkOn_X1 0 rfl rfl 5 (by decide) m_X1_walkOn_Cond_fieldLink_RX1_41_PerfectPew_Graph_keyCount_I_ rfl dX1_walkOn_99 ?_
            refine lv_iadd hx hb dX1_walkOn_102 ?_
            refine lv_aload_n hx hb dX1_walkOn_103 rfl (lv_at hl 3 rfl) ?_
            refine kk_get (T := TX1) F hw ui_X1_walkOn_X1 0 rfl rfl 5 (by decide) m_X1_walkOn_Cond_fieldLink_RX1_41_PerfectPew_Graph_keyCount_I_ rfl dX1_walkOn_104 ?_
            obtain ⟨v19, ev19, hF1⟩ := kk_bind hF1
            refine kk_callI 0 0 hw (kk_runSN (As := [.int (((v11 >>> (1 &&& 31)) - v18) + x_keyCount), .int x_keyCount]) (rest := [.int v15, .ref a0]) F hw hl.1 (c_X7_remainder l G cI cJ ad (((v11 >>> (1 &&& 31)) - v18) + x_keyCount) x_keyCount N v19 ev19 H.size) gX1_walkOn_X7_remainder_n118 rfl nl_49 m_X1_walkOn_Cond_initialized_yX7_remainder_cls m_X1_walkOn_Cond_static_yX7_remainder md_X7_remainder ⟨Nat.le_of_ble_eq_true rfl, Nat.le_of_ble_eq_true rfl⟩ ⟨Nat.le_of_ble_eq_true rfl, Nat.le_of_ble_eq_true rfl⟩ rfl (Nat.le_of_ble_eq_true rfl) dX1_walkOn_107) ⟨rfl, rfl⟩ [] (by decide) rfl rfl (fun H locs hw => ?_)
            obtain ⟨v20, ev20, hF1⟩ := kk_bind hF1
            refine kk_callV 0 0 hw (kk_runV (As := [.int v15, .int v19]) (rest := []) F hw hl.1 (c_X1_reach l G cI cJ ad a0 a1 a8 a10 a11 a12 a13 x_reachedCount_7 x_keyCount x_vertexCount x_seed f_values_7 f_reached_7 v15 v19 N v20 ev20 H.size) gX1_walkOn_X1_reach rfl ⟨rfl, md_X1_reach⟩ ⟨Nat.le_of_ble_eq_true rfl, Nat.le_of_ble_eq_true rfl⟩ ⟨Nat.le_of_ble_eq_true rfl, Nat.le_of_ble_eq_true rfl⟩ 0 1 rfl rfl rfl rfl (Nat.le_of_ble_eq_true rfl) dX1_walkOn_110) ⟨rfl, rfl⟩ [0, 10, 11, 12, 13] (by decide) rfl rfl (fun H locs hw => ?_)
            have hw : kk_wd G A s.heap [(a0, .inr (1, [.ref a1, .ref a8, .ref a10, .ref a12, .int v20.1, .int x_keyCount, .int x_vertexCount, .int x_seed])), (a1, .inr (2, [.ref a2, .ref a4, .ref a6, .int x_ends_thingCount, .int x_ends_groupCount])), (a2, .inr (6, [.ref a3])), (a3, .inl (cI, 240, .inl f_ends_groups)), (a4, .inr (6, [.ref a5])), (a5, .inl (cI, 361, .inl f_ends_begins)), (a6, .inr (6, [.ref a7])), (a7, .inl (cI, 240, .inl f_ends_members)), (a8, .inr (6, [.ref a9])), (a9, .inl (cI, 120, .inl v14)), (a10, .inr (6, [.ref a11])), (a11, .inl (cI, 360, .inl v20.2.1)), (a12, .inr (6, [.ref a13])), (a13, .inl (cI, 360, .inl v20.2.2))] H locs := hw
            exact hJ8 v20.1 v14 v20.2.1 v20.2.2 i2_7 hF1 _ _ _ hw (lv_sub hl [3, 4, 5] rfl)
          · have hF1 := (if_neg c17).symm.trans hF1
            have hy := Option.some.inj hF1
            subst hy
            have hz := Option.some.inj hI1
            subst hz
            exact hJ2 x_reachedCount_7 v14 f_values_7 f_reached_7 hF0 _ _ _ hw (lv_sub hl [] rfl)
  exact hL7 N x_reachedCount f_walked f_values f_reached v3 hz7 _ _ _ hw (lv_sub hl [1, 2, 0] rfl)
theorem ui_X1_walkFrom_X1 : ∀ w ∈ u_ws RX1 TX1 8, w ∈ wsX1_walkFrom := by decide +kernel
theorem m_X1_walkFrom_Cond_fieldLink_RX1_94_PerfectPew_Graph_reachedCount_I_ : Cond.fieldLink RX1 94 "PerfectPew$Graph" "reachedCount" "I" ∈ wsX1_walkFrom := by decide +kernel
theorem m_X1_walkFrom_Cond_fieldLink_RX1_44_PerfectPew_Graph_vertexCount_I_ : Cond.fieldLink RX1 44 "PerfectPew$Graph" "vertexCount" "I" ∈ wsX1_walkFrom := by decide +kernel
theorem m_X1_walkFrom_Cond_fieldLink_RX1_32_PerfectPew_Graph_reached_LPerfectPew_Row_ : Cond.fieldLink RX1 32 "PerfectPew$Graph" "reached" "LPerfectPew$Row;" ∈ wsX1_walkFrom := by decide +kernel
theorem m_X1_walkFrom_Cond_initialized_yX6_get_cls : Cond.initialized yX6_get.cls ∈ wsX1_walkFrom := by decide +kernel
theorem m_X1_walkFrom_Cond_instanceMethod_yX6_get : Cond.instanceMethod yX6_get ∈ wsX1_walkFrom := by decide +kernel
theorem m_X1_walkFrom_Cond_selects_RX6_yX6_get_yX6_get : Cond.selects RX6 yX6_get yX6_get ∈ wsX1_walkFrom := by decide +kernel
set_option maxRecDepth 100000 in
set_option maxHeartbeats 4000000 in
theorem c_X1_walkFrom (l : Launch) (G : va_G) (cI cJ : ClassId) (ad : Nat → Nat) (a0 a1 a2 a3 a4 a5 a6 a7 a8 a9 a10 a11 a12 a13 : Nat) (x_reachedCount : Int32) (x_keyCount : Int32) (x_vertexCount : Int32) (x_seed : Int32) (x_ends_thingCount : Int32) (x_ends_groupCount : Int32) (f_ends_groups : Nat → Int32) (f_ends_begins : Nat → Int32) (f_ends_members : Nat → Int32) (f_walked : Nat → Int32) (f_values : Nat → Int32) (f_reached : Nat → Int32) (i1 : Int32) (N : Nat) (x : (Int32 × Int32 × (Nat → Int32) × (Nat → Int32) × (Nat → Int32))) (hF0 : F_X1_walkFrom N x_reachedCount x_keyCount x_vertexCount f_ends_groups f_ends_begins f_ends_members f_walked f_values f_reached i1 = some x) : kk_I l yX1_walkFrom wsX1_walkFrom 3 0 0 69 [.ref a0, .int i1] G cI cJ ad [(a0, .inr (1, [.ref a1, .ref a8, .ref a10, .ref a12, .int x_reachedCount, .int x_keyCount, .int x_vertexCount, .int x_seed])), (a1, .inr (2, [.ref a2, .ref a4, .ref a6, .int x_ends_thingCount, .int x_ends_groupCount])), (a2, .inr (6, [.ref a3])), (a3, .inl (cI, 240, .inl f_ends_groups)), (a4, .inr (6, [.ref a5])), (a5, .inl (cI, 361, .inl f_ends_begins)), (a6, .inr (6, [.ref a7])), (a7, .inl (cI, 240, .inl f_ends_members)), (a8, .inr (6, [.ref a9])), (a9, .inl (cI, 120, .inl f_walked)), (a10, .inr (6, [.ref a11])), (a11, .inl (cI, 360, .inl f_values)), (a12, .inr (6, [.ref a13])), (a13, .inl (cI, 360, .inl f_reached))] x.1 [(a0, .inr (1, [.ref a1, .ref a8, .ref a10, .ref a12, .int x.2.1, .int x_keyCount, .int x_vertexCount, .int x_seed])), (a1, .inr (2, [.ref a2, .ref a4, .ref a6, .int x_ends_thingCount, .int x_ends_groupCount])), (a2, .inr (6, [.ref a3])), (a3, .inl (cI, 240, .inl f_ends_groups)), (a4, .inr (6, [.ref a5])), (a5, .inl (cI, 361, .inl f_ends_begins)), (a6, .inr (6, [.ref a7])), (a7, .inl (cI, 240, .inl f_ends_members)), (a8, .inr (6, [.ref a9])), (a9, .inl (cI, 120, .inl x.2.2.1)), (a10, .inr (6, [.ref a11])), (a11, .inl (cI, 360, .inl x.2.2.2.1)), (a12, .inr (6, [.ref a13])), (a13, .inl (cI, 360, .inl x.2.2.2.2))] := by
  refine kk_ofZ (cc := cX1_walkFrom) (maxL := 3) (by decide) rfl (Nat.le_of_ble_eq_true rfl) ?_
  intro p e s m below meth c A Q ls H locs hx hb hml hown hts hE hw hl hret
  have F : kk_at p m c cX1_walkFrom 3 s _ wsX1_walkFrom RX1 G cI cJ ad A := ⟨⟨hx, hb, hml, hown, hts⟩, hE⟩
  have hl : lv_has ls 3 [(0, .ref a0), (1, .int i1)] := hl
  unfold F_X1_walkFrom at hF0
  have hJ1 : ∀ (x_reachedCount_1 : Int32) (f_walked_1 : Nat → Int32) (f_values_1 : Nat → Int32) (f_reached_1 : Nat → Int32), J_X1_walkFrom_52 N x_reachedCount_1 f_walked_1 f_values_1 f_reached_1 = some x → ∀ (H : Heap) (locs : List Loc) (ls : Array Slot), kk_wd G A s.heap [(a0, .inr (1, [.ref a1, .ref a8, .ref a10, .ref a12, .int x_reachedCount_1, .int x_keyCount, .int x_vertexCount, .int x_seed])), (a1, .inr (2, [.ref a2, .ref a4, .ref a6, .int x_ends_thingCount, .int x_ends_groupCount])), (a2, .inr (6, [.ref a3])), (a3, .inl (cI, 240, .inl f_ends_groups)), (a4, .inr (6, [.ref a5])), (a5, .inl (cI, 361, .inl f_ends_begins)), (a6, .inr (6, [.ref a7])), (a7, .inl (cI, 240, .inl f_ends_members)), (a8, .inr (6, [.ref a9])), (a9, .inl (cI, 120, .inl f_walked_1)), (a10, .inr (6, [.ref a11])), (a11, .inl (cI, 360, .inl f_values_1)), (a12, .inr (6, [.ref a13])), (a13, .inl (cI, 360, .inl f_reached_1))] H locs → lv_has ls 3 [] → W p l e (kk_rm 3 0 0 69) s m ([.ref a0, .int i1] : List Value).toArray below meth c H locs 0 0 Q (F0 m 52 ls []) := by
    intro x_reachedCount_1 f_walked_1 f_values_1 f_reached_1 hF0 H locs ls hw hl
    unfold J_X1_walkFrom_52 at hF0
    refine lv_iconst (v := 1) hx hb dX1_walkFrom_52 (by decide) ?_
    have hy := Option.some.inj hF0
    subst hy
    exact hret dX1_walkFrom_53 (by decide) (by decide) (Or.inr rfl) hw
  have hJ2 : ∀ (x_reachedCount_2 : Int32) (f_walked_2 : Nat → Int32) (f_values_2 : Nat → Int32) (f_reached_2 : Nat → Int32), J_X1_walkFrom_44 N x_reachedCount_2 f_walked_2 f_values_2 f_reached_2 = some x → ∀ (H : Heap) (locs : List Loc) (ls : Array Slot), kk_wd G A s.heap [(a0, .inr (1, [.ref a1, .ref a8, .ref a10, .ref a12, .int x_reachedCount_2, .int x_keyCount, .int x_vertexCount, .int x_seed])), (a1, .inr (2, [.ref a2, .ref a4, .ref a6, .int x_ends_thingCount, .int x_ends_groupCount])), (a2, .inr (6, [.ref a3])), (a3, .inl (cI, 240, .inl f_ends_groups)), (a4, .inr (6, [.ref a5])), (a5, .inl (cI, 361, .inl f_ends_begins)), (a6, .inr (6, [.ref a7])), (a7, .inl (cI, 240, .inl f_ends_members)), (a8, .inr (6, [.ref a9])), (a9, .inl (cI, 120, .inl f_walked_2)), (a10, .inr (6, [.ref a11])), (a11, .inl (cI, 360, .inl f_values_2)), (a12, .inr (6, [.ref a13])), (a13, .inl (cI, 360, .inl f_reached_2))] H locs → lv_has ls 3 [] → W p l e (kk_rm 3 0 0 69) s m ([.ref a0, .int i1] : List Value).toArray below meth c H locs 0 0 Q (F0 m 44 ls []) := by
    intro x_reachedCount_2 f_walked_2 f_values_2 f_reached_2 hF0 H locs ls hw hl
    unfold J_X1_walkFrom_44 at hF0
    refine lv_iconst (v := 0) hx hb dX1_walkFrom_44 (by decide) ?_
    have hy := Option.some.inj hF0
    subst hy
    exact hret dX1_walkFrom_45 (by decide) (by decide) (Or.inl rfl) hw
  refine lv_aload_n hx hb dX1_walkFrom_0 rfl (lv_at hl 0 rfl) ?_
  refine lv_iconst (v := 0) hx hb dX1_walkFrom_1 (by decide) ?_
  refine kk_put F hw ui_X1_walkFrom_X1 tyX1 tyX1_ok nmX1 0 rfl rfl 4 (by decide) m_X1_walkFrom_Cond_fieldLink_RX1_94_PerfectPew_Graph_reachedCount_I_ rfl rfl rfl (Nat.le_of_ble_eq_true rfl) dX1_walkFrom_2 (fun H locs hw => ?_)
  have hw : kk_wd G A s.heap [(a0, .inr (1, [.ref a1, .ref a8, .ref a10, .ref a12, .int 0, .int x_keyCount, .int x_vertexCount, .int x_seed])), (a1, .inr (2, [.ref a2, .ref a4, .ref a6, .int x_ends_thingCount, .int x_ends_groupCount])), (a2, .inr (6, [.ref a3])), (a3, .inl (cI, 240, .inl f_ends_groups)), (a4, .inr (6, [.ref a5])), (a5, .inl (cI, 361, .inl f_ends_begins)), (a6, .inr (6, [.ref a7])), (a7, .inl (cI, 240, .inl f_ends_members)), (a8, .inr (6, [.ref a9])), (a9, .inl (cI, 120, .inl f_walked)), (a10, .inr (6, [.ref a11])), (a11, .inl (cI, 360, .inl f_values)), (a12, .inr (6, [.ref a13])), (a13, .inl (cI, 360, .inl f_reached))] H locs := hw
  refine lv_aload_n hx hb dX1_walkFrom_5 rfl (lv_at hl 0 rfl) ?_
  refine lv_iload_n hx hb dX1_walkFrom_6 rfl (lv_at hl 1 rfl) ?_
  refine lv_iconst (v := 0) hx hb dX1_walkFrom_7 (by decide) ?_
  obtain ⟨v3, ev3, hF0⟩ := kk_bind hF0
  refine kk_callV 0 0 hw (kk_runV (As := [.int i1, .int 0]) (rest := []) F hw hl.1 (c_X1_reach l G cI cJ ad a0 a1 a8 a10 a11 a12 a13 0 x_keyCount x_vertexCount x_seed f_values f_reached i1 0 N v3 ev3 H.size) gX1_walkFrom_X1_reach rfl ⟨rfl, md_X1_reach⟩ ⟨Nat.le_of_ble_eq_true rfl, Nat.le_of_ble_eq_true rfl⟩ ⟨Nat.le_of_ble_eq_true rfl, Nat.le_of_ble_eq_true rfl⟩ 0 1 rfl rfl rfl rfl (Nat.le_of_ble_eq_true rfl) dX1_walkFrom_8) ⟨rfl, rfl⟩ [0, 10, 11, 12, 13] (by decide) rfl rfl (fun H locs hw => ?_)
  have hw : kk_wd G A s.heap [(a0, .inr (1, [.ref a1, .ref a8, .ref a10, .ref a12, .int v3.1, .int x_keyCount, .int x_vertexCount, .int x_seed])), (a1, .inr (2, [.ref a2, .ref a4, .ref a6, .int x_ends_thingCount, .int x_ends_groupCount])), (a2, .inr (6, [.ref a3])), (a3, .inl (cI, 240, .inl f_ends_groups)), (a4, .inr (6, [.ref a5])), (a5, .inl (cI, 361, .inl f_ends_begins)), (a6, .inr (6, [.ref a7])), (a7, .inl (cI, 240, .inl f_ends_members)), (a8, .inr (6, [.ref a9])), (a9, .inl (cI, 120, .inl f_walked)), (a10, .inr (6, [.ref a11])), (a11, .inl (cI, 360, .inl v3.2.1)), (a12, .inr (6, [.ref a13])), (a13, .inl (cI, 360, .inl v3.2.2))] H locs := hw
  refine lv_iconst (v := 0) hx hb dX1_walkFrom_11 (by decide) ?_
  refine lv_istore_n (lv' := [(2, .int 0), (0, .ref a0), (1, .int i1)]) hx hb dX1_walkFrom_12 rfl hl (by decide) rfl (fun ls hl => ?_)
  obtain ⟨z4, hz7, hF0⟩ := kk_bind hF0
  have hL7 : ∀ (n7 : Nat) (x_reachedCount_7 : Int32) (f_walked_7 : Nat → Int32) (f_values_7 : Nat → Int32) (f_reached_7 : Nat → Int32) (i2_7 : Int32), kk_iter (fun (σ : (Int32 × (Nat → Int32) × (Nat → Int32) × (Nat → Int32) × Int32)) => L_X1_walkFrom_13 N x_keyCount x_vertexCount f_ends_groups f_ends_begins f_ends_members σ.1 σ.2.1 σ.2.2.1 σ.2.2.2.1 σ.2.2.2.2) n7 (x_reachedCount_7, f_walked_7, f_values_7, f_reached_7, i2_7) = some z4 → ∀ (H : Heap) (locs : List Loc) (ls : Array Slot), kk_wd G A s.heap [(a0, .inr (1, [.ref a1, .ref a8, .ref a10, .ref a12, .int x_reachedCount_7, .int x_keyCount, .int x_vertexCount, .int x_seed])), (a1, .inr (2, [.ref a2, .ref a4, .ref a6, .int x_ends_thingCount, .int x_ends_groupCount])), (a2, .inr (6, [.ref a3])), (a3, .inl (cI, 240, .inl f_ends_groups)), (a4, .inr (6, [.ref a5])), (a5, .inl (cI, 361, .inl f_ends_begins)), (a6, .inr (6, [.ref a7])), (a7, .inl (cI, 240, .inl f_ends_members)), (a8, .inr (6, [.ref a9])), (a9, .inl (cI, 120, .inl f_walked_7)), (a10, .inr (6, [.ref a11])), (a11, .inl (cI, 360, .inl f_values_7)), (a12, .inr (6, [.ref a13])), (a13, .inl (cI, 360, .inl f_reached_7))] H locs → lv_has ls 3 [(0, .ref a0), (2, .int i2_7)] → W p l e (kk_rm 3 0 0 69) s m ([.ref a0, .int i1] : List Value).toArray below meth c H locs 0 0 Q (F0 m 13 ls []) := by
    intro n7
    induction n7 with
    | zero => intro x_reachedCount_7 f_walked_7 f_values_7 f_reached_7 i2_7 h; exact kk_iter0 h
    | succ n7 ih7 =>
      intro x_reachedCount_7 f_walked_7 f_values_7 f_reached_7 i2_7 hq H locs ls hw hl
      obtain ⟨y7, hF1, hI1⟩ := kk_iterS hq
      have hF1 : L_X1_walkFrom_13 N x_keyCount x_vertexCount f_ends_groups f_ends_begins f_ends_members x_reachedCount_7 f_walked_7 f_values_7 f_reached_7 i2_7 = some y7 := hF1
      unfold L_X1_walkFrom_13 at hF1
      refine lv_iload_n hx hb dX1_walkFrom_13 rfl (lv_at hl 1 rfl) ?_
      refine lv_aload_n hx hb dX1_walkFrom_14 rfl (lv_at hl 0 rfl) ?_
      refine kk_get (T := TX1) F hw ui_X1_walkFrom_X1 0 rfl rfl 4 (by decide) m_X1_walkFrom_Cond_fieldLink_RX1_94_PerfectPew_Graph_reachedCount_I_ rfl dX1_walkFrom_15 ?_
      refine lv_icmp_ge (tgt := 52) hx hb dX1_walkFrom_18 (by decide) (fun c8 => ?_) (fun c8 => ?_)
      · have hF1 := (if_pos c8).symm.trans hF1
        have hy := Option.some.inj hF1
        subst hy
        have hz := Option.some.inj hI1
        subst hz
        exact hJ1 x_reachedCount_7 f_walked_7 f_values_7 f_reached_7 hF0 _ _ _ hw (lv_sub hl [] rfl)
      · have hF1 := (if_neg c8).symm.trans hF1
        refine lv_iload_n hx hb dX1_walkFrom_21 rfl (lv_at hl 1 rfl) ?_
        refine lv_aload_n hx hb dX1_walkFrom_22 rfl (lv_at hl 0 rfl) ?_
        refine kk_get (T := TX1) F hw ui_X1_walkFrom_X1 0 rfl rfl 6 (by decide) m_X1_walkFrom_Cond_fieldLink_RX1_44_PerfectPew_Graph_vertexCount_I_ rfl dX1_walkFrom_23 ?_
        refine lv_icmp_ge (tgt := 52) hx hb dX1_walkFrom_26 (by decide) (fun c9 => ?_) (fun c9 => ?_)
        · have hF1 := (if_pos c9).symm.trans hF1
          have hy := Option.some.inj hF1
          subst hy
          have hz := Option.some.inj hI1
          subst hz
          exact hJ1 x_reachedCount_7 f_walked_7 f_values_7 f_reached_7 hF0 _ _ _ hw (lv_sub hl [] rfl)
        · have hF1 := (if_neg c9).symm.trans hF1
          refine lv_aload_n hx hb dX1_walkFrom_29 rfl (lv_at hl 0 rfl) ?_
          refine lv_aload_n hx hb dX1_walkFrom_30 rfl (lv_at hl 0 rfl) ?_
          refine kk_get (T := TX1) F hw ui_X1_walkFrom_X1 0 rfl rfl 3 (by decide) m_X1_walkFrom_Cond_fieldLink_RX1_32_PerfectPew_Graph_reached_LPerfectPew_Row_ rfl dX1_walkFrom_31 ?_
          refine lv_iload_n hx hb dX1_walkFrom_34 rfl (lv_at hl 1 rfl) ?_
          obtain ⟨v10, ev10, hF1⟩ := kk_bind hF1
          refine kk_callI 0 0 hw (kk_runN (As := [.int i2_7]) (rest := [.ref a0]) F hw hl.1 (c_X6_get l G cI cJ ad a12 a13 360 f_reached_7 i2_7 N v10 ev10 H.size) gX1_walkFrom_X6_get_n87 rfl nl_53 m_X1_walkFrom_Cond_initialized_yX6_get_cls m_X1_walkFrom_Cond_instanceMethod_yX6_get m_X1_walkFrom_Cond_selects_RX6_yX6_get_yX6_get md_X6_get ⟨Nat.le_of_ble_eq_true rfl, Nat.le_of_ble_eq_true rfl⟩ ⟨Nat.le_of_ble_eq_true rfl, Nat.le_of_ble_eq_true rfl⟩ 12 6 rfl rfl rfl rfl (Nat.le_of_ble_eq_true rfl) dX1_walkFrom_35) ⟨rfl, rfl⟩ [12, 13] (by decide) rfl rfl (fun H locs hw => ?_)
          have hw : kk_wd G A s.heap [(a0, .inr (1, [.ref a1, .ref a8, .ref a10, .ref a12, .int x_reachedCount_7, .int x_keyCount, .int x_vertexCount, .int x_seed])), (a1, .inr (2, [.ref a2, .ref a4, .ref a6, .int x_ends_thingCount, .int x_ends_groupCount])), (a2, .inr (6, [.ref a3])), (a3, .inl (cI, 240, .inl f_ends_groups)), (a4, .inr (6, [.ref a5])), (a5, .inl (cI, 361, .inl f_ends_begins)), (a6, .inr (6, [.ref a7])), (a7, .inl (cI, 240, .inl f_ends_members)), (a8, .inr (6, [.ref a9])), (a9, .inl (cI, 120, .inl f_walked_7)), (a10, .inr (6, [.ref a11])), (a11, .inl (cI, 360, .inl f_values_7)), (a12, .inr (6, [.ref a13])), (a13, .inl (cI, 360, .inl f_reached_7))] H locs := hw
          obtain ⟨v11, ev11, hF1⟩ := kk_bind hF1
          refine kk_callI 0 0 hw (kk_runV (As := [.int v10]) (rest := []) F hw hl.1 (c_X1_walkOn l G cI cJ ad a0 a1 a2 a3 a4 a5 a6 a7 a8 a9 a10 a11 a12 a13 x_reachedCount_7 x_keyCount x_vertexCount x_seed x_ends_thingCount x_ends_groupCount f_ends_groups f_ends_begins f_ends_members f_walked_7 f_values_7 f_reached_7 v10 N v11 ev11 H.size) gX1_walkFrom_X1_walkOn rfl ⟨rfl, md_X1_walkOn⟩ ⟨Nat.le_of_ble_eq_true rfl, Nat.le_of_ble_eq_true rfl⟩ ⟨Nat.le_of_ble_eq_true rfl, Nat.le_of_ble_eq_true rfl⟩ 0 1 rfl rfl rfl rfl (Nat.le_of_ble_eq_true rfl) dX1_walkFrom_38) ⟨rfl, rfl⟩ [0, 1, 2, 3, 4, 5, 6, 7, 8, 9, 10, 11, 12, 13] (by decide) rfl rfl (fun H locs hw => ?_)
          have hw : kk_wd G A s.heap [(a0, .inr (1, [.ref a1, .ref a8, .ref a10, .ref a12, .int v11.2.1, .int x_keyCount, .int x_vertexCount, .int x_seed])), (a1, .inr (2, [.ref a2, .ref a4, .ref a6, .int x_ends_thingCount, .int x_ends_groupCount])), (a2, .inr (6, [.ref a3])), (a3, .inl (cI, 240, .inl f_ends_groups)), (a4, .inr (6, [.ref a5])), (a5, .inl (cI, 361, .inl f_ends_begins)), (a6, .inr (6, [.ref a7])), (a7, .inl (cI, 240, .inl f_ends_members)), (a8, .inr (6, [.ref a9])), (a9, .inl (cI, 120, .inl v11.2.2.1)), (a10, .inr (6, [.ref a11])), (a11, .inl (cI, 360, .inl v11.2.2.2.1)), (a12, .inr (6, [.ref a13])), (a13, .inl (cI, 360, .inl v11.2.2.2.2))] H locs := hw
          refine lv_if_ne (tgt := 46) hx hb dX1_walkFrom_41 (by decide) (fun c12 => ?_) (fun c12 => ?_)
          · have hF1 := (if_neg c12).symm.trans hF1
            refine lv_iinc (v := (i2_7 + 1)) (lv' := [(2, .int (i2_7 + 1)), (0, .ref a0)]) hx hb dX1_walkFrom_46 hl (k := 1) rfl rfl (by decide) rfl (fun ls hl => ?_)
            refine lv_goto (tgt := 13) hx hb dX1_walkFrom_49 (by decide) ?_
            have hy := Option.some.inj hF1
            subst hy
            exact ih7 v11.2.1 v11.2.2.1 v11.2.2.2.1 v11.2.2.2.2 (i2_7 + 1) hI1 _ _ _ hw (lv_sub hl [1, 0] rfl)
          · have hF1 := (if_pos c12).symm.trans hF1
            have hy := Option.some.inj hF1
            subst hy
            have hz := Option.some.inj hI1
            subst hz
            exact hJ2 v11.2.1 v11.2.2.1 v11.2.2.2.1 v11.2.2.2.2 hF0 _ _ _ hw (lv_sub hl [] rfl)
  exact hL7 N v3.1 f_walked v3.2.1 v3.2.2 0 hz7 _ _ _ hw (lv_sub hl [1, 0] rfl)
theorem ui_X1_giveValues_X1 : ∀ w ∈ u_ws RX1 TX1 8, w ∈ wsX1_giveValues := by decide +kernel
theorem m_X1_giveValues_Cond_fieldLink_RX1_29_PerfectPew_Graph_values_LPerfectPew_Row_ : Cond.fieldLink RX1 29 "PerfectPew$Graph" "values" "LPerfectPew$Row;" ∈ wsX1_giveValues := by decide +kernel
theorem m_X1_giveValues_Cond_fieldLink_RX1_25_PerfectPew_Graph_walked_LPerfectPew_Row_ : Cond.fieldLink RX1 25 "PerfectPew$Graph" "walked" "LPerfectPew$Row;" ∈ wsX1_giveValues := by decide +kernel
theorem m_X1_giveValues_Cond_fieldLink_RX1_44_PerfectPew_Graph_vertexCount_I_ : Cond.fieldLink RX1 44 "PerfectPew$Graph" "vertexCount" "I" ∈ wsX1_giveValues := by decide +kernel
theorem m_X1_giveValues_Cond_initialized_yX6_get_cls : Cond.initialized yX6_get.cls ∈ wsX1_giveValues := by decide +kernel
theorem m_X1_giveValues_Cond_instanceMethod_yX6_get : Cond.instanceMethod yX6_get ∈ wsX1_giveValues := by decide +kernel
theorem m_X1_giveValues_Cond_selects_RX6_yX6_get_yX6_get : Cond.selects RX6 yX6_get yX6_get ∈ wsX1_giveValues := by decide +kernel
theorem m_X1_giveValues_Cond_initialized_yX6_fill_cls : Cond.initialized yX6_fill.cls ∈ wsX1_giveValues := by decide +kernel
theorem m_X1_giveValues_Cond_instanceMethod_yX6_fill : Cond.instanceMethod yX6_fill ∈ wsX1_giveValues := by decide +kernel
theorem m_X1_giveValues_Cond_selects_RX6_yX6_fill_yX6_fill : Cond.selects RX6 yX6_fill yX6_fill ∈ wsX1_giveValues := by decide +kernel
set_option maxRecDepth 100000 in
set_option maxHeartbeats 4000000 in
theorem c_X1_giveValues (l : Launch) (G : va_G) (cI cJ : ClassId) (ad : Nat → Nat) (a0 a1 a2 a3 a4 a5 a6 a7 a8 a9 a10 a11 a12 a13 : Nat) (x_reachedCount : Int32) (x_keyCount : Int32) (x_vertexCount : Int32) (x_seed : Int32) (x_ends_thingCount : Int32) (x_ends_groupCount : Int32) (f_ends_groups : Nat → Int32) (f_ends_begins : Nat → Int32) (f_ends_members : Nat → Int32) (f_walked : Nat → Int32) (f_values : Nat → Int32) (f_reached : Nat → Int32) (N : Nat) (x : (Int32 × Int32 × (Nat → Int32) × (Nat → Int32) × (Nat → Int32))) (hF0 : F_X1_giveValues N x_reachedCount x_keyCount x_vertexCount f_ends_groups f_ends_begins f_ends_members f_walked f_values f_reached = some x) : kk_I l yX1_giveValues wsX1_giveValues 4 0 0 91 [.ref a0] G cI cJ ad [(a0, .inr (1, [.ref a1, .ref a8, .ref a10, .ref a12, .int x_reachedCount, .int x_keyCount, .int x_vertexCount, .int x_seed])), (a1, .inr (2, [.ref a2, .ref a4, .ref a6, .int x_ends_thingCount, .int x_ends_groupCount])), (a2, .inr (6, [.ref a3])), (a3, .inl (cI, 240, .inl f_ends_groups)), (a4, .inr (6, [.ref a5])), (a5, .inl (cI, 361, .inl f_ends_begins)), (a6, .inr (6, [.ref a7])), (a7, .inl (cI, 240, .inl f_ends_members)), (a8, .inr (6, [.ref a9])), (a9, .inl (cI, 120, .inl f_walked)), (a10, .inr (6, [.ref a11])), (a11, .inl (cI, 360, .inl f_values)), (a12, .inr (6, [.ref a13])), (a13, .inl (cI, 360, .inl f_reached))] x.1 [(a0, .inr (1, [.ref a1, .ref a8, .ref a10, .ref a12, .int x.2.1, .int x_keyCount, .int x_vertexCount, .int x_seed])), (a1, .inr (2, [.ref a2, .ref a4, .ref a6, .int x_ends_thingCount, .int x_ends_groupCount])), (a2, .inr (6, [.ref a3])), (a3, .inl (cI, 240, .inl f_ends_groups)), (a4, .inr (6, [.ref a5])), (a5, .inl (cI, 361, .inl f_ends_begins)), (a6, .inr (6, [.ref a7])), (a7, .inl (cI, 240, .inl f_ends_members)), (a8, .inr (6, [.ref a9])), (a9, .inl (cI, 120, .inl x.2.2.1)), (a10, .inr (6, [.ref a11])), (a11, .inl (cI, 360, .inl x.2.2.2.1)), (a12, .inr (6, [.ref a13])), (a13, .inl (cI, 360, .inl x.2.2.2.2))] := by
  refine kk_ofZ (cc := cX1_giveValues) (maxL := 2) (by decide) rfl (Nat.le_of_ble_eq_true rfl) ?_
  intro p e s m below meth c A Q ls H locs hx hb hml hown hts hE hw hl hret
  have F : kk_at p m c cX1_giveValues 2 s _ wsX1_giveValues RX1 G cI cJ ad A := ⟨⟨hx, hb, hml, hown, hts⟩, hE⟩
  have hl : lv_has ls 2 [(0, .ref a0)] := hl
  unfold F_X1_giveValues at hF0
  have hJ1 : ∀ (x_reachedCount_1 : Int32) (f_walked_1 : Nat → Int32) (f_values_1 : Nat → Int32) (f_reached_1 : Nat → Int32), J_X1_giveValues_54 N x_reachedCount_1 f_walked_1 f_values_1 f_reached_1 = some x → ∀ (H : Heap) (locs : List Loc) (ls : Array Slot), kk_wd G A s.heap [(a0, .inr (1, [.ref a1, .ref a8, .ref a10, .ref a12, .int x_reachedCount_1, .int x_keyCount, .int x_vertexCount, .int x_seed])), (a1, .inr (2, [.ref a2, .ref a4, .ref a6, .int x_ends_thingCount, .int x_ends_groupCount])), (a2, .inr (6, [.ref a3])), (a3, .inl (cI, 240, .inl f_ends_groups)), (a4, .inr (6, [.ref a5])), (a5, .inl (cI, 361, .inl f_ends_begins)), (a6, .inr (6, [.ref a7])), (a7, .inl (cI, 240, .inl f_ends_members)), (a8, .inr (6, [.ref a9])), (a9, .inl (cI, 120, .inl f_walked_1)), (a10, .inr (6, [.ref a11])), (a11, .inl (cI, 360, .inl f_values_1)), (a12, .inr (6, [.ref a13])), (a13, .inl (cI, 360, .inl f_reached_1))] H locs → lv_has ls 2 [] → W p l e (kk_rm 4 0 0 91) s m ([.ref a0] : List Value).toArray below meth c H locs 0 0 Q (F0 m 54 ls []) := by
    intro x_reachedCount_1 f_walked_1 f_values_1 f_reached_1 hF0 H locs ls hw hl
    unfold J_X1_giveValues_54 at hF0
    refine lv_iconst (v := 1) hx hb dX1_giveValues_54 (by decide) ?_
    have hy := Option.some.inj hF0
    subst hy
    exact hret dX1_giveValues_55 (by decide) (by decide) (Or.inr rfl) hw
  have hJ2 : ∀ (x_reachedCount_2 : Int32) (f_walked_2 : Nat → Int32) (f_values_2 : Nat → Int32) (f_reached_2 : Nat → Int32), J_X1_giveValues_46 N x_reachedCount_2 f_walked_2 f_values_2 f_reached_2 = some x → ∀ (H : Heap) (locs : List Loc) (ls : Array Slot), kk_wd G A s.heap [(a0, .inr (1, [.ref a1, .ref a8, .ref a10, .ref a12, .int x_reachedCount_2, .int x_keyCount, .int x_vertexCount, .int x_seed])), (a1, .inr (2, [.ref a2, .ref a4, .ref a6, .int x_ends_thingCount, .int x_ends_groupCount])), (a2, .inr (6, [.ref a3])), (a3, .inl (cI, 240, .inl f_ends_groups)), (a4, .inr (6, [.ref a5])), (a5, .inl (cI, 361, .inl f_ends_begins)), (a6, .inr (6, [.ref a7])), (a7, .inl (cI, 240, .inl f_ends_members)), (a8, .inr (6, [.ref a9])), (a9, .inl (cI, 120, .inl f_walked_2)), (a10, .inr (6, [.ref a11])), (a11, .inl (cI, 360, .inl f_values_2)), (a12, .inr (6, [.ref a13])), (a13, .inl (cI, 360, .inl f_reached_2))] H locs → lv_has ls 2 [] → W p l e (kk_rm 4 0 0 91) s m ([.ref a0] : List Value).toArray below meth c H locs 0 0 Q (F0 m 46 ls []) := by
    intro x_reachedCount_2 f_walked_2 f_values_2 f_reached_2 hF0 H locs ls hw hl
    unfold J_X1_giveValues_46 at hF0
    refine lv_iconst (v := 0) hx hb dX1_giveValues_46 (by decide) ?_
    have hy := Option.some.inj hF0
    subst hy
    exact hret dX1_giveValues_47 (by decide) (by decide) (Or.inl rfl) hw
  refine lv_aload_n hx hb dX1_giveValues_0 rfl (lv_at hl 0 rfl) ?_
  refine kk_get (T := TX1) F hw ui_X1_giveValues_X1 0 rfl rfl 2 (by decide) m_X1_giveValues_Cond_fieldLink_RX1_29_PerfectPew_Graph_values_LPerfectPew_Row_ rfl dX1_giveValues_1 ?_
  refine lv_iconst (v := (-1)) hx hb dX1_giveValues_4 (by decide) ?_
  obtain ⟨v3, ev3, hF0⟩ := kk_bind hF0
  refine kk_callV 0 0 hw (kk_runN (As := [.int (-1)]) (rest := []) F hw hl.1 (c_X6_fill l G cI cJ ad a10 a11 360 f_values (-1) N v3 ev3 H.size) gX1_giveValues_X6_fill_n84 rfl nl_52 m_X1_giveValues_Cond_initialized_yX6_fill_cls m_X1_giveValues_Cond_instanceMethod_yX6_fill m_X1_giveValues_Cond_selects_RX6_yX6_fill_yX6_fill md_X6_fill ⟨Nat.le_of_ble_eq_true rfl, Nat.le_of_ble_eq_true rfl⟩ ⟨Nat.le_of_ble_eq_true rfl, Nat.le_of_ble_eq_true rfl⟩ 10 6 rfl rfl rfl rfl (Nat.le_of_ble_eq_true rfl) dX1_giveValues_5) ⟨rfl, rfl⟩ [10, 11] (by decide) rfl rfl (fun H locs hw => ?_)
  have hw : kk_wd G A s.heap [(a0, .inr (1, [.ref a1, .ref a8, .ref a10, .ref a12, .int x_reachedCount, .int x_keyCount, .int x_vertexCount, .int x_seed])), (a1, .inr (2, [.ref a2, .ref a4, .ref a6, .int x_ends_thingCount, .int x_ends_groupCount])), (a2, .inr (6, [.ref a3])), (a3, .inl (cI, 240, .inl f_ends_groups)), (a4, .inr (6, [.ref a5])), (a5, .inl (cI, 361, .inl f_ends_begins)), (a6, .inr (6, [.ref a7])), (a7, .inl (cI, 240, .inl f_ends_members)), (a8, .inr (6, [.ref a9])), (a9, .inl (cI, 120, .inl f_walked)), (a10, .inr (6, [.ref a11])), (a11, .inl (cI, 360, .inl v3)), (a12, .inr (6, [.ref a13])), (a13, .inl (cI, 360, .inl f_reached))] H locs := hw
  refine lv_aload_n hx hb dX1_giveValues_8 rfl (lv_at hl 0 rfl) ?_
  refine kk_get (T := TX1) F hw ui_X1_giveValues_X1 0 rfl rfl 1 (by decide) m_X1_giveValues_Cond_fieldLink_RX1_25_PerfectPew_Graph_walked_LPerfectPew_Row_ rfl dX1_giveValues_9 ?_
  refine lv_iconst (v := 0) hx hb dX1_giveValues_12 (by decide) ?_
  obtain ⟨v4, ev4, hF0⟩ := kk_bind hF0
  refine kk_callV 0 0 hw (kk_runN (As := [.int 0]) (rest := []) F hw hl.1 (c_X6_fill l G cI cJ ad a8 a9 120 f_walked 0 N v4 ev4 H.size) gX1_giveValues_X6_fill_n84 rfl nl_52 m_X1_giveValues_Cond_initialized_yX6_fill_cls m_X1_giveValues_Cond_instanceMethod_yX6_fill m_X1_giveValues_Cond_selects_RX6_yX6_fill_yX6_fill md_X6_fill ⟨Nat.le_of_ble_eq_true rfl, Nat.le_of_ble_eq_true rfl⟩ ⟨Nat.le_of_ble_eq_true rfl, Nat.le_of_ble_eq_true rfl⟩ 8 6 rfl rfl rfl rfl (Nat.le_of_ble_eq_true rfl) dX1_giveValues_13) ⟨rfl, rfl⟩ [8, 9] (by decide) rfl rfl (fun H locs hw => ?_)
  have hw : kk_wd G A s.heap [(a0, .inr (1, [.ref a1, .ref a8, .ref a10, .ref a12, .int x_reachedCount, .int x_keyCount, .int x_vertexCount, .int x_seed])), (a1, .inr (2, [.ref a2, .ref a4, .ref a6, .int x_ends_thingCount, .int x_ends_groupCount])), (a2, .inr (6, [.ref a3])), (a3, .inl (cI, 240, .inl f_ends_groups)), (a4, .inr (6, [.ref a5])), (a5, .inl (cI, 361, .inl f_ends_begins)), (a6, .inr (6, [.ref a7])), (a7, .inl (cI, 240, .inl f_ends_members)), (a8, .inr (6, [.ref a9])), (a9, .inl (cI, 120, .inl v4)), (a10, .inr (6, [.ref a11])), (a11, .inl (cI, 360, .inl v3)), (a12, .inr (6, [.ref a13])), (a13, .inl (cI, 360, .inl f_reached))] H locs := hw
  refine lv_iconst (v := 0) hx hb dX1_giveValues_16 (by decide) ?_
  refine lv_istore_n (lv' := [(1, .int 0), (0, .ref a0)]) hx hb dX1_giveValues_17 rfl hl (by decide) rfl (fun ls hl => ?_)
  obtain ⟨z5, hz8, hF0⟩ := kk_bind hF0
  have hL8 : ∀ (n8 : Nat) (x_reachedCount_8 : Int32) (f_walked_8 : Nat → Int32) (f_values_8 : Nat → Int32) (f_reached_8 : Nat → Int32) (i1_8 : Int32), kk_iter (fun (σ : (Int32 × (Nat → Int32) × (Nat → Int32) × (Nat → Int32) × Int32)) => L_X1_giveValues_18 N x_keyCount x_vertexCount f_ends_groups f_ends_begins f_ends_members σ.1 σ.2.1 σ.2.2.1 σ.2.2.2.1 σ.2.2.2.2) n8 (x_reachedCount_8, f_walked_8, f_values_8, f_reached_8, i1_8) = some z5 → ∀ (H : Heap) (locs : List Loc) (ls : Array Slot), kk_wd G A s.heap [(a0, .inr (1, [.ref a1, .ref a8, .ref a10, .ref a12, .int x_reachedCount_8, .int x_keyCount, .int x_vertexCount, .int x_seed])), (a1, .inr (2, [.ref a2, .ref a4, .ref a6, .int x_ends_thingCount, .int x_ends_groupCount])), (a2, .inr (6, [.ref a3])), (a3, .inl (cI, 240, .inl f_ends_groups)), (a4, .inr (6, [.ref a5])), (a5, .inl (cI, 361, .inl f_ends_begins)), (a6, .inr (6, [.ref a7])), (a7, .inl (cI, 240, .inl f_ends_members)), (a8, .inr (6, [.ref a9])), (a9, .inl (cI, 120, .inl f_walked_8)), (a10, .inr (6, [.ref a11])), (a11, .inl (cI, 360, .inl f_values_8)), (a12, .inr (6, [.ref a13])), (a13, .inl (cI, 360, .inl f_reached_8))] H locs → lv_has ls 2 [(0, .ref a0), (1, .int i1_8)] → W p l e (kk_rm 4 0 0 91) s m ([.ref a0] : List Value).toArray below meth c H locs 0 0 Q (F0 m 18 ls []) := by
    intro n8
    induction n8 with
    | zero => intro x_reachedCount_8 f_walked_8 f_values_8 f_reached_8 i1_8 h; exact kk_iter0 h
    | succ n8 ih8 =>
      intro x_reachedCount_8 f_walked_8 f_values_8 f_reached_8 i1_8 hq H locs ls hw hl
      obtain ⟨y8, hF1, hI1⟩ := kk_iterS hq
      have hF1 : L_X1_giveValues_18 N x_keyCount x_vertexCount f_ends_groups f_ends_begins f_ends_members x_reachedCount_8 f_walked_8 f_values_8 f_reached_8 i1_8 = some y8 := hF1
      unfold L_X1_giveValues_18 at hF1
      have hJ9 : ∀ (x_reachedCount_9 : Int32) (f_walked_9 : Nat → Int32) (f_values_9 : Nat → Int32) (f_reached_9 : Nat → Int32) (i1_9 : Int32), J_X1_giveValues_48 N x_reachedCount_9 f_walked_9 f_values_9 f_reached_9 i1_9 = some y8 → ∀ (H : Heap) (locs : List Loc) (ls : Array Slot), kk_wd G A s.heap [(a0, .inr (1, [.ref a1, .ref a8, .ref a10, .ref a12, .int x_reachedCount_9, .int x_keyCount, .int x_vertexCount, .int x_seed])), (a1, .inr (2, [.ref a2, .ref a4, .ref a6, .int x_ends_thingCount, .int x_ends_groupCount])), (a2, .inr (6, [.ref a3])), (a3, .inl (cI, 240, .inl f_ends_groups)), (a4, .inr (6, [.ref a5])), (a5, .inl (cI, 361, .inl f_ends_begins)), (a6, .inr (6, [.ref a7])), (a7, .inl (cI, 240, .inl f_ends_members)), (a8, .inr (6, [.ref a9])), (a9, .inl (cI, 120, .inl f_walked_9)), (a10, .inr (6, [.ref a11])), (a11, .inl (cI, 360, .inl f_values_9)), (a12, .inr (6, [.ref a13])), (a13, .inl (cI, 360, .inl f_reached_9))] H locs → lv_has ls 2 [(0, .ref a0), (1, .int i1_9)] → W p l e (kk_rm 4 0 0 91) s m ([.ref a0] : List Value).toArray below meth c H locs 0 0 Q (F0 m 48 ls []) := by
        intro x_reachedCount_9 f_walked_9 f_values_9 f_reached_9 i1_9 hF1 H locs ls hw hl
        unfold J_X1_giveValues_48 at hF1
        refine lv_iinc (v := (i1_9 + 1)) (lv' := [(1, .int (i1_9 + 1)), (0, .ref a0)]) hx hb dX1_giveValues_48 hl (k := 1) rfl rfl (by decide) rfl (fun ls hl => ?_)
        refine lv_goto (tgt := 18) hx hb dX1_giveValues_51 (by decide) ?_
        have hy := Option.some.inj hF1
        subst hy
        exact ih8 x_reachedCount_9 f_walked_9 f_values_9 f_reached_9 (i1_9 + 1) hI1 _ _ _ hw (lv_sub hl [1, 0] rfl)
      refine lv_iload_n hx hb dX1_giveValues_18 rfl (lv_at hl 1 rfl) ?_
      refine lv_aload_n hx hb dX1_giveValues_19 rfl (lv_at hl 0 rfl) ?_
      refine kk_get (T := TX1) F hw ui_X1_giveValues_X1 0 rfl rfl 6 (by decide) m_X1_giveValues_Cond_fieldLink_RX1_44_PerfectPew_Graph_vertexCount_I_ rfl dX1_giveValues_20 ?_
      refine lv_icmp_ge (tgt := 54) hx hb dX1_giveValues_23 (by decide) (fun c10 => ?_) (fun c10 => ?_)
      · have hF1 := (if_pos c10).symm.trans hF1
        have hy := Option.some.inj hF1
        subst hy
        have hz := Option.some.inj hI1
        subst hz
        exact hJ1 x_reachedCount_8 f_walked_8 f_values_8 f_reached_8 hF0 _ _ _ hw (lv_sub hl [] rfl)
      · have hF1 := (if_neg c10).symm.trans hF1
        refine lv_aload_n hx hb dX1_giveValues_26 rfl (lv_at hl 0 rfl) ?_
        refine kk_get (T := TX1) F hw ui_X1_giveValues_X1 0 rfl rfl 2 (by decide) m_X1_giveValues_Cond_fieldLink_RX1_29_PerfectPew_Graph_values_LPerfectPew_Row_ rfl dX1_giveValues_27 ?_
        refine lv_iload_n hx hb dX1_giveValues_30 rfl (lv_at hl 1 rfl) ?_
        obtain ⟨v11, ev11, hF1⟩ := kk_bind hF1
        refine kk_callI 0 0 hw (kk_runN (As := [.int i1_8]) (rest := []) F hw hl.1 (c_X6_get l G cI cJ ad a10 a11 360 f_values_8 i1_8 N v11 ev11 H.size) gX1_giveValues_X6_get_n87 rfl nl_53 m_X1_giveValues_Cond_initialized_yX6_get_cls m_X1_giveValues_Cond_instanceMethod_yX6_get m_X1_giveValues_Cond_selects_RX6_yX6_get_yX6_get md_X6_get ⟨Nat.le_of_ble_eq_true rfl, Nat.le_of_ble_eq_true rfl⟩ ⟨Nat.le_of_ble_eq_true rfl, Nat.le_of_ble_eq_true rfl⟩ 10 6 rfl rfl rfl rfl (Nat.le_of_ble_eq_true rfl) dX1_giveValues_31) ⟨rfl, rfl⟩ [10, 11] (by decide) rfl rfl (fun H locs hw => ?_)
        have hw : kk_wd G A s.heap [(a0, .inr (1, [.ref a1, .ref a8, .ref a10, .ref a12, .int x_reachedCount_8, .int x_keyCount, .int x_vertexCount, .int x_seed])), (a1, .inr (2, [.ref a2, .ref a4, .ref a6, .int x_ends_thingCount, .int x_ends_groupCount])), (a2, .inr (6, [.ref a3])), (a3, .inl (cI, 240, .inl f_ends_groups)), (a4, .inr (6, [.ref a5])), (a5, .inl (cI, 361, .inl f_ends_begins)), (a6, .inr (6, [.ref a7])), (a7, .inl (cI, 240, .inl f_ends_members)), (a8, .inr (6, [.ref a9])), (a9, .inl (cI, 120, .inl f_walked_8)), (a10, .inr (6, [.ref a11])), (a11, .inl (cI, 360, .inl f_values_8)), (a12, .inr (6, [.ref a13])), (a13, .inl (cI, 360, .inl f_reached_8))] H locs := hw
        refine lv_iconst (v := (-1)) hx hb dX1_giveValues_34 (by decide) ?_
        refine lv_icmp_ne (tgt := 48) hx hb dX1_giveValues_35 (by decide) (fun c12 => ?_) (fun c12 => ?_)
        · have hF1 := (if_neg c12).symm.trans hF1
          exact hJ9 x_reachedCount_8 f_walked_8 f_values_8 f_reached_8 i1_8 hF1 _ _ _ hw (lv_sub hl [0, 1] rfl)
        · have hF1 := (if_pos c12).symm.trans hF1
          refine lv_aload_n hx hb dX1_giveValues_38 rfl (lv_at hl 0 rfl) ?_
          refine lv_iload_n hx hb dX1_giveValues_39 rfl (lv_at hl 1 rfl) ?_
          obtain ⟨v13, ev13, hF1⟩ := kk_bind hF1
          refine kk_callI 0 0 hw (kk_runV (As := [.int i1_8]) (rest := []) F hw hl.1 (c_X1_walkFrom l G cI cJ ad a0 a1 a2 a3 a4 a5 a6 a7 a8 a9 a10 a11 a12 a13 x_reachedCount_8 x_keyCount x_vertexCount x_seed x_ends_thingCount x_ends_groupCount f_ends_groups f_ends_begins f_ends_members f_walked_8 f_values_8 f_reached_8 i1_8 N v13 ev13 H.size) gX1_giveValues_X1_walkFrom rfl ⟨rfl, md_X1_walkFrom⟩ ⟨Nat.le_of_ble_eq_true rfl, Nat.le_of_ble_eq_true rfl⟩ ⟨Nat.le_of_ble_eq_true rfl, Nat.le_of_ble_eq_true rfl⟩ 0 1 rfl rfl rfl rfl (Nat.le_of_ble_eq_true rfl) dX1_giveValues_40) ⟨rfl, rfl⟩ [0, 1, 2, 3, 4, 5, 6, 7, 8, 9, 10, 11, 12, 13] (by decide) rfl rfl (fun H locs hw => ?_)
          have hw : kk_wd G A s.heap [(a0, .inr (1, [.ref a1, .ref a8, .ref a10, .ref a12, .int v13.2.1, .int x_keyCount, .int x_vertexCount, .int x_seed])), (a1, .inr (2, [.ref a2, .ref a4, .ref a6, .int x_ends_thingCount, .int x_ends_groupCount])), (a2, .inr (6, [.ref a3])), (a3, .inl (cI, 240, .inl f_ends_groups)), (a4, .inr (6, [.ref a5])), (a5, .inl (cI, 361, .inl f_ends_begins)), (a6, .inr (6, [.ref a7])), (a7, .inl (cI, 240, .inl f_ends_members)), (a8, .inr (6, [.ref a9])), (a9, .inl (cI, 120, .inl v13.2.2.1)), (a10, .inr (6, [.ref a11])), (a11, .inl (cI, 360, .inl v13.2.2.2.1)), (a12, .inr (6, [.ref a13])), (a13, .inl (cI, 360, .inl v13.2.2.2.2))] H locs := hw
          refine lv_if_ne (tgt := 48) hx hb dX1_giveValues_43 (by decide) (fun c14 => ?_) (fun c14 => ?_)
          · have hF1 := (if_neg c14).symm.trans hF1
            exact hJ9 v13.2.1 v13.2.2.1 v13.2.2.2.1 v13.2.2.2.2 i1_8 hF1 _ _ _ hw (lv_sub hl [0, 1] rfl)
          · have hF1 := (if_pos c14).symm.trans hF1
            have hy := Option.some.inj hF1
            subst hy
            have hz := Option.some.inj hI1
            subst hz
            exact hJ2 v13.2.1 v13.2.2.1 v13.2.2.2.1 v13.2.2.2.2 hF0 _ _ _ hw (lv_sub hl [] rfl)
  exact hL8 N x_reachedCount v4 v3 f_reached 0 hz8 _ _ _ hw (lv_sub hl [1, 0] rfl)
theorem ui_X1_settle_X4 : ∀ w ∈ u_ws RX4 TX4 2, w ∈ wsX1_settle := by decide +kernel
theorem ui_X1_settle_X1 : ∀ w ∈ u_ws RX1 TX1 8, w ∈ wsX1_settle := by decide +kernel
theorem m_X1_settle_Cond_fieldLink_RX1_41_PerfectPew_Graph_keyCount_I_ : Cond.fieldLink RX1 41 "PerfectPew$Graph" "keyCount" "I" ∈ wsX1_settle := by decide +kernel
theorem m_X1_settle_Cond_fieldLink_RX1_44_PerfectPew_Graph_vertexCount_I_ : Cond.fieldLink RX1 44 "PerfectPew$Graph" "vertexCount" "I" ∈ wsX1_settle := by decide +kernel
theorem m_X1_settle_Cond_fieldLink_RX1_47_PerfectPew_Graph_seed_I_ : Cond.fieldLink RX1 47 "PerfectPew$Graph" "seed" "I" ∈ wsX1_settle := by decide +kernel
set_option maxRecDepth 100000 in
set_option maxHeartbeats 4000000 in
theorem c_X1_settle (l : Launch) (G : va_G) (cI cJ : ClassId) (ad : Nat → Nat) (a0 a1 a2 a3 a4 a5 a6 a7 a8 a9 a10 a11 a12 a13 b0 b1 b2 : Nat) (x_reachedCount : Int32) (x_keyCount : Int32) (x_vertexCount : Int32) (x_seed : Int32) (x_ends_thingCount : Int32) (x_ends_groupCount : Int32) (f_ends_groups : Nat → Int32) (f_ends_begins : Nat → Int32) (f_ends_members : Nat → Int32) (f_walked : Nat → Int32) (f_values : Nat → Int32) (f_reached : Nat → Int32) (q_x_size : Int32) (q_f_places : Nat → Int32) (N : Nat) (x : (Int32 × Int32 × Int32 × Int32 × Int32 × Int32 × Int32 × (Nat → Int32) × (Nat → Int32) × (Nat → Int32) × (Nat → Int32) × (Nat → Int32) × (Nat → Int32))) (hF0 : F_X1_settle N x_reachedCount x_keyCount x_vertexCount x_seed x_ends_thingCount x_ends_groupCount f_ends_groups f_ends_begins f_ends_members f_walked f_values f_reached q_x_size q_f_places = some x) : kk_I l yX1_settle wsX1_settle 5 0 0 112 [.ref a0, .ref b0] G cI cJ ad [(a0, .inr (1, [.ref a1, .ref a8, .ref a10, .ref a12, .int x_reachedCount, .int x_keyCount, .int x_vertexCount, .int x_seed])), (a1, .inr (2, [.ref a2, .ref a4, .ref a6, .int x_ends_thingCount, .int x_ends_groupCount])), (a2, .inr (6, [.ref a3])), (a3, .inl (cI, 240, .inl f_ends_groups)), (a4, .inr (6, [.ref a5])), (a5, .inl (cI, 361, .inl f_ends_begins)), (a6, .inr (6, [.ref a7])), (a7, .inl (cI, 240, .inl f_ends_members)), (a8, .inr (6, [.ref a9])), (a9, .inl (cI, 120, .inl f_walked)), (a10, .inr (6, [.ref a11])), (a11, .inl (cI, 360, .inl f_values)), (a12, .inr (6, [.ref a13])), (a13, .inl (cI, 360, .inl f_reached)), (b0, .inr (4, [.ref b1, .int q_x_size])), (b1, .inr (6, [.ref b2])), (b2, .inl (cI, 120, .inl q_f_places))] x.1 [(a0, .inr (1, [.ref a1, .ref a8, .ref a10, .ref a12, .int x.2.1, .int x.2.2.1, .int x.2.2.2.1, .int x.2.2.2.2.1])), (a1, .inr (2, [.ref a2, .ref a4, .ref a6, .int x.2.2.2.2.2.1, .int x.2.2.2.2.2.2.1])), (a2, .inr (6, [.ref a3])), (a3, .inl (cI, 240, .inl x.2.2.2.2.2.2.2.1)), (a4, .inr (6, [.ref a5])), (a5, .inl (cI, 361, .inl x.2.2.2.2.2.2.2.2.1)), (a6, .inr (6, [.ref a7])), (a7, .inl (cI, 240, .inl x.2.2.2.2.2.2.2.2.2.1)), (a8, .inr (6, [.ref a9])), (a9, .inl (cI, 120, .inl x.2.2.2.2.2.2.2.2.2.2.1)), (a10, .inr (6, [.ref a11])), (a11, .inl (cI, 360, .inl x.2.2.2.2.2.2.2.2.2.2.2.1)), (a12, .inr (6, [.ref a13])), (a13, .inl (cI, 360, .inl x.2.2.2.2.2.2.2.2.2.2.2.2)), (b0, .inr (4, [.ref b1, .int q_x_size])), (b1, .inr (6, [.ref b2])), (b2, .inl (cI, 120, .inl q_f_places))] := by
  refine kk_ofZ (cc := cX1_settle) (maxL := 3) (by decide) rfl (Nat.le_of_ble_eq_true rfl) ?_
  intro p e s m below meth c A Q ls H locs hx hb hml hown hts hE hw hl hret
  have F : kk_at p m c cX1_settle 3 s _ wsX1_settle RX1 G cI cJ ad A := ⟨⟨hx, hb, hml, hown, hts⟩, hE⟩
  have hl : lv_has ls 3 [(0, .ref a0), (1, .ref b0)] := hl
  unfold F_X1_settle at hF0
  have hJ1 : ∀ (x_reachedCount_1 : Int32) (x_keyCount_1 : Int32) (x_vertexCount_1 : Int32) (x_seed_1 : Int32) (x_ends_thingCount_1 : Int32) (x_ends_groupCount_1 : Int32) (f_ends_groups_1 : Nat → Int32) (f_ends_begins_1 : Nat → Int32) (f_ends_members_1 : Nat → Int32) (f_walked_1 : Nat → Int32) (f_values_1 : Nat → Int32) (f_reached_1 : Nat → Int32), J_X1_settle_52 N x_reachedCount_1 x_keyCount_1 x_vertexCount_1 x_seed_1 x_ends_thingCount_1 x_ends_groupCount_1 f_ends_groups_1 f_ends_begins_1 f_ends_members_1 f_walked_1 f_values_1 f_reached_1 = some x → ∀ (H : Heap) (locs : List Loc) (ls : Array Slot), kk_wd G A s.heap [(a0, .inr (1, [.ref a1, .ref a8, .ref a10, .ref a12, .int x_reachedCount_1, .int x_keyCount_1, .int x_vertexCount_1, .int x_seed_1])), (a1, .inr (2, [.ref a2, .ref a4, .ref a6, .int x_ends_thingCount_1, .int x_ends_groupCount_1])), (a2, .inr (6, [.ref a3])), (a3, .inl (cI, 240, .inl f_ends_groups_1)), (a4, .inr (6, [.ref a5])), (a5, .inl (cI, 361, .inl f_ends_begins_1)), (a6, .inr (6, [.ref a7])), (a7, .inl (cI, 240, .inl f_ends_members_1)), (a8, .inr (6, [.ref a9])), (a9, .inl (cI, 120, .inl f_walked_1)), (a10, .inr (6, [.ref a11])), (a11, .inl (cI, 360, .inl f_values_1)), (a12, .inr (6, [.ref a13])), (a13, .inl (cI, 360, .inl f_reached_1)), (b0, .inr (4, [.ref b1, .int q_x_size])), (b1, .inr (6, [.ref b2])), (b2, .inl (cI, 120, .inl q_f_places))] H locs → lv_has ls 3 [] → W p l e (kk_rm 5 0 0 112) s m ([.ref a0, .ref b0] : List Value).toArray below meth c H locs 0 0 Q (F0 m 52 ls []) := by
    intro x_reachedCount_1 x_keyCount_1 x_vertexCount_1 x_seed_1 x_ends_thingCount_1 x_ends_groupCount_1 f_ends_groups_1 f_ends_begins_1 f_ends_members_1 f_walked_1 f_values_1 f_reached_1 hF0 H locs ls hw hl
    unfold J_X1_settle_52 at hF0
    refine lv_iconst (v := 0) hx hb dX1_settle_52 (by decide) ?_
    have hy := Option.some.inj hF0
    subst hy
    exact hret dX1_settle_53 (by decide) (by decide) (Or.inl rfl) hw
  have hJ2 : ∀ (x_reachedCount_2 : Int32) (x_keyCount_2 : Int32) (x_vertexCount_2 : Int32) (x_seed_2 : Int32) (x_ends_thingCount_2 : Int32) (x_ends_groupCount_2 : Int32) (f_ends_groups_2 : Nat → Int32) (f_ends_begins_2 : Nat → Int32) (f_ends_members_2 : Nat → Int32) (f_walked_2 : Nat → Int32) (f_values_2 : Nat → Int32) (f_reached_2 : Nat → Int32), J_X1_settle_44 N x_reachedCount_2 x_keyCount_2 x_vertexCount_2 x_seed_2 x_ends_thingCount_2 x_ends_groupCount_2 f_ends_groups_2 f_ends_begins_2 f_ends_members_2 f_walked_2 f_values_2 f_reached_2 = some x → ∀ (H : Heap) (locs : List Loc) (ls : Array Slot), kk_wd G A s.heap [(a0, .inr (1, [.ref a1, .ref a8, .ref a10, .ref a12, .int x_reachedCount_2, .int x_keyCount_2, .int x_vertexCount_2, .int x_seed_2])), (a1, .inr (2, [.ref a2, .ref a4, .ref a6, .int x_ends_thingCount_2, .int x_ends_groupCount_2])), (a2, .inr (6, [.ref a3])), (a3, .inl (cI, 240, .inl f_ends_groups_2)), (a4, .inr (6, [.ref a5])), (a5, .inl (cI, 361, .inl f_ends_begins_2)), (a6, .inr (6, [.ref a7])), (a7, .inl (cI, 240, .inl f_ends_members_2)), (a8, .inr (6, [.ref a9])), (a9, .inl (cI, 120, .inl f_walked_2)), (a10, .inr (6, [.ref a11])), (a11, .inl (cI, 360, .inl f_values_2)), (a12, .inr (6, [.ref a13])), (a13, .inl (cI, 360, .inl f_reached_2)), (b0, .inr (4, [.ref b1, .int q_x_size])), (b1, .inr (6, [.ref b2])), (b2, .inl (cI, 120, .inl q_f_places))] H locs → lv_has ls 3 [] → W p l e (kk_rm 5 0 0 112) s m ([.ref a0, .ref b0] : List Value).toArray below meth c H locs 0 0 Q (F0 m 44 ls []) := by
    intro x_reachedCount_2 x_keyCount_2 x_vertexCount_2 x_seed_2 x_ends_thingCount_2 x_ends_groupCount_2 f_ends_groups_2 f_ends_begins_2 f_ends_members_2 f_walked_2 f_values_2 f_reached_2 hF0 H locs ls hw hl
    unfold J_X1_settle_44 at hF0
    refine lv_iconst (v := 1) hx hb dX1_settle_44 (by decide) ?_
    have hy := Option.some.inj hF0
    subst hy
    exact hret dX1_settle_45 (by decide) (by decide) (Or.inr rfl) hw
  refine lv_aload_n hx hb dX1_settle_0 rfl (lv_at hl 0 rfl) ?_
  refine lv_aload_n hx hb dX1_settle_1 rfl (lv_at hl 1 rfl) ?_
  refine kk_getN (T := TX4) F hw ui_X1_settle_X4 14 rfl rfl 1 (by decide) nl_1 rfl dX1_settle_2 ?_
  refine kk_put F hw ui_X1_settle_X1 tyX1 tyX1_ok nmX1 0 rfl rfl 5 (by decide) m_X1_settle_Cond_fieldLink_RX1_41_PerfectPew_Graph_keyCount_I_ rfl rfl rfl (Nat.le_of_ble_eq_true rfl) dX1_settle_5 (fun H locs hw => ?_)
  have hw : kk_wd G A s.heap [(a0, .inr (1, [.ref a1, .ref a8, .ref a10, .ref a12, .int x_reachedCount, .int q_x_size, .int x_vertexCount, .int x_seed])), (a1, .inr (2, [.ref a2, .ref a4, .ref a6, .int x_ends_thingCount, .int x_ends_groupCount])), (a2, .inr (6, [.ref a3])), (a3, .inl (cI, 240, .inl f_ends_groups)), (a4, .inr (6, [.ref a5])), (a5, .inl (cI, 361, .inl f_ends_begins)), (a6, .inr (6, [.ref a7])), (a7, .inl (cI, 240, .inl f_ends_members)), (a8, .inr (6, [.ref a9])), (a9, .inl (cI, 120, .inl f_walked)), (a10, .inr (6, [.ref a11])), (a11, .inl (cI, 360, .inl f_values)), (a12, .inr (6, [.ref a13])), (a13, .inl (cI, 360, .inl f_reached)), (b0, .inr (4, [.ref b1, .int q_x_size])), (b1, .inr (6, [.ref b2])), (b2, .inl (cI, 120, .inl q_f_places))] H locs := hw
  refine lv_aload_n hx hb dX1_settle_8 rfl (lv_at hl 0 rfl) ?_
  refine lv_iconst (v := 3) hx hb dX1_settle_9 (by decide) ?_
  refine lv_aload_n hx hb dX1_settle_10 rfl (lv_at hl 0 rfl) ?_
  refine kk_get (T := TX1) F hw ui_X1_settle_X1 0 rfl rfl 5 (by decide) m_X1_settle_Cond_fieldLink_RX1_41_PerfectPew_Graph_keyCount_I_ rfl dX1_settle_11 ?_
  refine lv_imul hx hb dX1_settle_14 ?_
  refine kk_put F hw ui_X1_settle_X1 tyX1 tyX1_ok nmX1 0 rfl rfl 6 (by decide) m_X1_settle_Cond_fieldLink_RX1_44_PerfectPew_Graph_vertexCount_I_ rfl rfl rfl (Nat.le_of_ble_eq_true rfl) dX1_settle_15 (fun H locs hw => ?_)
  have hw : kk_wd G A s.heap [(a0, .inr (1, [.ref a1, .ref a8, .ref a10, .ref a12, .int x_reachedCount, .int q_x_size, .int (3 * q_x_size), .int x_seed])), (a1, .inr (2, [.ref a2, .ref a4, .ref a6, .int x_ends_thingCount, .int x_ends_groupCount])), (a2, .inr (6, [.ref a3])), (a3, .inl (cI, 240, .inl f_ends_groups)), (a4, .inr (6, [.ref a5])), (a5, .inl (cI, 361, .inl f_ends_begins)), (a6, .inr (6, [.ref a7])), (a7, .inl (cI, 240, .inl f_ends_members)), (a8, .inr (6, [.ref a9])), (a9, .inl (cI, 120, .inl f_walked)), (a10, .inr (6, [.ref a11])), (a11, .inl (cI, 360, .inl f_values)), (a12, .inr (6, [.ref a13])), (a13, .inl (cI, 360, .inl f_reached)), (b0, .inr (4, [.ref b1, .int q_x_size])), (b1, .inr (6, [.ref b2])), (b2, .inl (cI, 120, .inl q_f_places))] H locs := hw
  refine lv_iconst (v := 0) hx hb dX1_settle_18 (by decide) ?_
  refine lv_istore_n (lv' := [(2, .int 0), (0, .ref a0), (1, .ref b0)]) hx hb dX1_settle_19 rfl hl (by decide) rfl (fun ls hl => ?_)
  obtain ⟨z3, hz6, hF0⟩ := kk_bind hF0
  have hL6 : ∀ (n6 : Nat) (x_reachedCount_6 : Int32) (x_seed_6 : Int32) (x_ends_thingCount_6 : Int32) (x_ends_groupCount_6 : Int32) (f_ends_groups_6 : Nat → Int32) (f_ends_begins_6 : Nat → Int32) (f_ends_members_6 : Nat → Int32) (f_walked_6 : Nat → Int32) (f_values_6 : Nat → Int32) (f_reached_6 : Nat → Int32) (i2_6 : Int32), kk_iter (fun (σ : (Int32 × Int32 × Int32 × Int32 × (Nat → Int32) × (Nat → Int32) × (Nat → Int32) × (Nat → Int32) × (Nat → Int32) × (Nat → Int32) × Int32)) => L_X1_settle_20 N q_x_size (3 * q_x_size) q_f_places σ.1 σ.2.1 σ.2.2.1 σ.2.2.2.1 σ.2.2.2.2.1 σ.2.2.2.2.2.1 σ.2.2.2.2.2.2.1 σ.2.2.2.2.2.2.2.1 σ.2.2.2.2.2.2.2.2.1 σ.2.2.2.2.2.2.2.2.2.1 σ.2.2.2.2.2.2.2.2.2.2) n6 (x_reachedCount_6, x_seed_6, x_ends_thingCount_6, x_ends_groupCount_6, f_ends_groups_6, f_ends_begins_6, f_ends_members_6, f_walked_6, f_values_6, f_reached_6, i2_6) = some z3 → ∀ (H : Heap) (locs : List Loc) (ls : Array Slot), kk_wd G A s.heap [(a0, .inr (1, [.ref a1, .ref a8, .ref a10, .ref a12, .int x_reachedCount_6, .int q_x_size, .int (3 * q_x_size), .int x_seed_6])), (a1, .inr (2, [.ref a2, .ref a4, .ref a6, .int x_ends_thingCount_6, .int x_ends_groupCount_6])), (a2, .inr (6, [.ref a3])), (a3, .inl (cI, 240, .inl f_ends_groups_6)), (a4, .inr (6, [.ref a5])), (a5, .inl (cI, 361, .inl f_ends_begins_6)), (a6, .inr (6, [.ref a7])), (a7, .inl (cI, 240, .inl f_ends_members_6)), (a8, .inr (6, [.ref a9])), (a9, .inl (cI, 120, .inl f_walked_6)), (a10, .inr (6, [.ref a11])), (a11, .inl (cI, 360, .inl f_values_6)), (a12, .inr (6, [.ref a13])), (a13, .inl (cI, 360, .inl f_reached_6)), (b0, .inr (4, [.ref b1, .int q_x_size])), (b1, .inr (6, [.ref b2])), (b2, .inl (cI, 120, .inl q_f_places))] H locs → lv_has ls 3 [(0, .ref a0), (1, .ref b0), (2, .int i2_6)] → W p l e (kk_rm 5 0 0 112) s m ([.ref a0, .ref b0] : List Value).toArray below meth c H locs 0 0 Q (F0 m 20 ls []) := by
    intro n6
    induction n6 with
    | zero => intro x_reachedCount_6 x_seed_6 x_ends_thingCount_6 x_ends_groupCount_6 f_ends_groups_6 f_ends_begins_6 f_ends_members_6 f_walked_6 f_values_6 f_reached_6 i2_6 h; exact kk_iter0 h
    | succ n6 ih6 =>
      intro x_reachedCount_6 x_seed_6 x_ends_thingCount_6 x_ends_groupCount_6 f_ends_groups_6 f_ends_begins_6 f_ends_members_6 f_walked_6 f_values_6 f_reached_6 i2_6 hq H locs ls hw hl
      obtain ⟨y6, hF1, hI1⟩ := kk_iterS hq
      have hF1 : L_X1_settle_20 N q_x_size (3 * q_x_size) q_f_places x_reachedCount_6 x_seed_6 x_ends_thingCount_6 x_ends_groupCount_6 f_ends_groups_6 f_ends_begins_6 f_ends_members_6 f_walked_6 f_values_6 f_reached_6 i2_6 = some y6 := hF1
      unfold L_X1_settle_20 at hF1
      refine lv_iload_n hx hb dX1_settle_20 rfl (lv_at hl 2 rfl) ?_
      refine lv_sipush (v := 200) hx hb dX1_settle_21 (by decide) ?_
      refine lv_icmp_ge (tgt := 52) hx hb dX1_settle_24 (by decide) (fun c7 => ?_) (fun c7 => ?_)
      · have hF1 := (if_pos c7).symm.trans hF1
        have hy := Option.some.inj hF1
        subst hy
        have hz := Option.some.inj hI1
        subst hz
        exact hJ1 x_reachedCount_6 q_x_size (3 * q_x_size) x_seed_6 x_ends_thingCount_6 x_ends_groupCount_6 f_ends_groups_6 f_ends_begins_6 f_ends_members_6 f_walked_6 f_values_6 f_reached_6 hF0 _ _ _ hw (lv_sub hl [] rfl)
      · have hF1 := (if_neg c7).symm.trans hF1
        refine lv_aload_n hx hb dX1_settle_27 rfl (lv_at hl 0 rfl) ?_
        refine lv_iload_n hx hb dX1_settle_28 rfl (lv_at hl 2 rfl) ?_
        refine kk_put F hw ui_X1_settle_X1 tyX1 tyX1_ok nmX1 0 rfl rfl 7 (by decide) m_X1_settle_Cond_fieldLink_RX1_47_PerfectPew_Graph_seed_I_ rfl rfl rfl (Nat.le_of_ble_eq_true rfl) dX1_settle_29 (fun H locs hw => ?_)
        have hw : kk_wd G A s.heap [(a0, .inr (1, [.ref a1, .ref a8, .ref a10, .ref a12, .int x_reachedCount_6, .int q_x_size, .int (3 * q_x_size), .int i2_6])), (a1, .inr (2, [.ref a2, .ref a4, .ref a6, .int x_ends_thingCount_6, .int x_ends_groupCount_6])), (a2, .inr (6, [.ref a3])), (a3, .inl (cI, 240, .inl f_ends_groups_6)), (a4, .inr (6, [.ref a5])), (a5, .inl (cI, 361, .inl f_ends_begins_6)), (a6, .inr (6, [.ref a7])), (a7, .inl (cI, 240, .inl f_ends_members_6)), (a8, .inr (6, [.ref a9])), (a9, .inl (cI, 120, .inl f_walked_6)), (a10, .inr (6, [.ref a11])), (a11, .inl (cI, 360, .inl f_values_6)), (a12, .inr (6, [.ref a13])), (a13, .inl (cI, 360, .inl f_reached_6)), (b0, .inr (4, [.ref b1, .int q_x_size])), (b1, .inr (6, [.ref b2])), (b2, .inl (cI, 120, .inl q_f_places))] H locs := hw
        refine lv_aload_n hx hb dX1_settle_32 rfl (lv_at hl 0 rfl) ?_
        refine lv_aload_n hx hb dX1_settle_33 rfl (lv_at hl 1 rfl) ?_
        obtain ⟨v8, ev8, hF1⟩ := kk_bind hF1
        refine kk_callV 0 0 hw (kk_runV (As := [.ref b0]) (rest := []) F hw hl.1 (c_X1_layEdges l G cI cJ ad a0 a1 a2 a3 a4 a5 a6 a7 a8 a10 a12 b0 b1 b2 x_reachedCount_6 q_x_size (3 * q_x_size) i2_6 x_ends_thingCount_6 x_ends_groupCount_6 f_ends_groups_6 f_ends_begins_6 f_ends_members_6 q_x_size q_f_places N v8 ev8 H.size) gX1_settle_X1_layEdges rfl ⟨rfl, md_X1_layEdges⟩ ⟨Nat.le_of_ble_eq_true rfl, Nat.le_of_ble_eq_true rfl⟩ ⟨Nat.le_of_ble_eq_true rfl, Nat.le_of_ble_eq_true rfl⟩ 0 1 rfl rfl rfl rfl (Nat.le_of_ble_eq_true rfl) dX1_settle_34) ⟨rfl, rfl⟩ [0, 1, 2, 3, 4, 5, 6, 7, 14, 15, 16] (by decide) rfl rfl (fun H locs hw => ?_)
        have hw : kk_wd G A s.heap [(a0, .inr (1, [.ref a1, .ref a8, .ref a10, .ref a12, .int x_reachedCount_6, .int q_x_size, .int (3 * q_x_size), .int i2_6])), (a1, .inr (2, [.ref a2, .ref a4, .ref a6, .int v8.1, .int v8.2.1])), (a2, .inr (6, [.ref a3])), (a3, .inl (cI, 240, .inl v8.2.2.1)), (a4, .inr (6, [.ref a5])), (a5, .inl (cI, 361, .inl v8.2.2.2.1)), (a6, .inr (6, [.ref a7])), (a7, .inl (cI, 240, .inl v8.2.2.2.2)), (a8, .inr (6, [.ref a9])), (a9, .inl (cI, 120, .inl f_walked_6)), (a10, .inr (6, [.ref a11])), (a11, .inl (cI, 360, .inl f_values_6)), (a12, .inr (6, [.ref a13])), (a13, .inl (cI, 360, .inl f_reached_6)), (b0, .inr (4, [.ref b1, .int q_x_size])), (b1, .inr (6, [.ref b2])), (b2, .inl (cI, 120, .inl q_f_places))] H locs := hw
        refine lv_aload_n hx hb dX1_settle_37 rfl (lv_at hl 0 rfl) ?_
        obtain ⟨v9, ev9, hF1⟩ := kk_bind hF1
        refine kk_callI 0 0 hw (kk_runV (As := []) (rest := []) F hw hl.1 (c_X1_giveValues l G cI cJ ad a0 a1 a2 a3 a4 a5 a6 a7 a8 a9 a10 a11 a12 a13 x_reachedCount_6 q_x_size (3 * q_x_size) i2_6 v8.1 v8.2.1 v8.2.2.1 v8.2.2.2.1 v8.2.2.2.2 f_walked_6 f_values_6 f_reached_6 N v9 ev9 H.size) gX1_settle_X1_giveValues rfl ⟨rfl, md_X1_giveValues⟩ ⟨Nat.le_of_ble_eq_true rfl, Nat.le_of_ble_eq_true rfl⟩ ⟨Nat.le_of_ble_eq_true rfl, Nat.le_of_ble_eq_true rfl⟩ 0 1 rfl rfl rfl rfl (Nat.le_of_ble_eq_true rfl) dX1_settle_38) ⟨rfl, rfl⟩ [0, 1, 2, 3, 4, 5, 6, 7, 8, 9, 10, 11, 12, 13] (by decide) rfl rfl (fun H locs hw => ?_)
        have hw : kk_wd G A s.heap [(a0, .inr (1, [.ref a1, .ref a8, .ref a10, .ref a12, .int v9.2.1, .int q_x_size, .int (3 * q_x_size), .int i2_6])), (a1, .inr (2, [.ref a2, .ref a4, .ref a6, .int v8.1, .int v8.2.1])), (a2, .inr (6, [.ref a3])), (a3, .inl (cI, 240, .inl v8.2.2.1)), (a4, .inr (6, [.ref a5])), (a5, .inl (cI, 361, .inl v8.2.2.2.1)), (a6, .inr (6, [.ref a7])), (a7, .inl (cI, 240, .inl v8.2.2.2.2)), (a8, .inr (6, [.ref a9])), (a9, .inl (cI, 120, .inl v9.2.2.1)), (a10, .inr (6, [.ref a11])), (a11, .inl (cI, 360, .inl v9.2.2.2.1)), (a12, .inr (6, [.ref a13])), (a13, .inl (cI, 360, .inl v9.2.2.2.2)), (b0, .inr (4, [.ref b1, .int q_x_size])), (b1, .inr (6, [.ref b2])), (b2, .inl (cI, 120, .inl q_f_places))] H locs := hw
        refine lv_if_eq (tgt := 46) hx hb dX1_settle_41 (by decide) (fun c10 => ?_) (fun c10 => ?_)
        · have hF1 := (if_pos c10).symm.trans hF1
          refine lv_iinc (v := (i2_6 + 1)) (lv' := [(2, .int (i2_6 + 1)), (0, .ref a0), (1, .ref b0)]) hx hb dX1_settle_46 hl (k := 2) rfl rfl (by decide) rfl (fun ls hl => ?_)
          refine lv_goto (tgt := 20) hx hb dX1_settle_49 (by decide) ?_
          have hy := Option.some.inj hF1
          subst hy
          exact ih6 v9.2.1 i2_6 v8.1 v8.2.1 v8.2.2.1 v8.2.2.2.1 v8.2.2.2.2 v9.2.2.1 v9.2.2.2.1 v9.2.2.2.2 (i2_6 + 1) hI1 _ _ _ hw (lv_sub hl [1, 2, 0] rfl)
        · have hF1 := (if_neg c10).symm.trans hF1
          have hy := Option.some.inj hF1
          subst hy
          have hz := Option.some.inj hI1
          subst hz
          exact hJ2 v9.2.1 q_x_size (3 * q_x_size) i2_6 v8.1 v8.2.1 v8.2.2.1 v8.2.2.2.1 v8.2.2.2.2 v9.2.2.1 v9.2.2.2.1 v9.2.2.2.2 hF0 _ _ _ hw (lv_sub hl [] rfl)
  exact hL6 N x_reachedCount x_seed x_ends_thingCount x_ends_groupCount f_ends_groups f_ends_begins f_ends_members f_walked f_values f_reached 0 hz6 _ _ _ hw (lv_sub hl [1, 2, 0] rfl)
theorem ui_X1_sumFor_X1 : ∀ w ∈ u_ws RX1 TX1 8, w ∈ wsX1_sumFor := by decide +kernel
theorem m_X1_sumFor_Cond_fieldLink_RX1_29_PerfectPew_Graph_values_LPerfectPew_Row_ : Cond.fieldLink RX1 29 "PerfectPew$Graph" "values" "LPerfectPew$Row;" ∈ wsX1_sumFor := by decide +kernel
theorem m_X1_sumFor_Cond_fieldLink_RX1_65_PerfectPew_Hash_ONE_END_LPerfectPew_Hash_ : Cond.fieldLink RX1 65 "PerfectPew$Hash" "ONE_END" "LPerfectPew$Hash;" ∈ wsX1_sumFor := by decide +kernel
theorem m_X1_sumFor_Cond_fieldLink_RX1_78_PerfectPew_Hash_OTHER_END_LPerfectPew_Hash_ : Cond.fieldLink RX1 78 "PerfectPew$Hash" "OTHER_END" "LPerfectPew$Hash;" ∈ wsX1_sumFor := by decide +kernel
theorem m_X1_sumFor_Cond_fieldLink_RX1_41_PerfectPew_Graph_keyCount_I_ : Cond.fieldLink RX1 41 "PerfectPew$Graph" "keyCount" "I" ∈ wsX1_sumFor := by decide +kernel
theorem m_X1_sumFor_Cond_initialized_yX7_remainder_cls : Cond.initialized yX7_remainder.cls ∈ wsX1_sumFor := by decide +kernel
theorem m_X1_sumFor_Cond_static_yX7_remainder : Cond.static yX7_remainder ∈ wsX1_sumFor := by decide +kernel
theorem m_X1_sumFor_Cond_initialized_yX6_get_cls : Cond.initialized yX6_get.cls ∈ wsX1_sumFor := by decide +kernel
theorem m_X1_sumFor_Cond_instanceMethod_yX6_get : Cond.instanceMethod yX6_get ∈ wsX1_sumFor := by decide +kernel
theorem m_X1_sumFor_Cond_selects_RX6_yX6_get_yX6_get : Cond.selects RX6 yX6_get yX6_get ∈ wsX1_sumFor := by decide +kernel
set_option maxRecDepth 100000 in
set_option maxHeartbeats 4000000 in
theorem c_X1_sumFor (l : Launch) (G : va_G) (cI cJ : ClassId) (ad : Nat → Nat) (a0 a1 a8 a10 a11 a12 : Nat) (x_reachedCount : Int32) (x_keyCount : Int32) (x_vertexCount : Int32) (x_seed : Int32) (f_values : Nat → Int32) (i1 : Int32) (N : Nat) (x : Int32) (hF0 : F_X1_sumFor N x_keyCount x_vertexCount x_seed f_values i1 = some x) : kk_I l yX1_sumFor wsX1_sumFor 2 0 0 44 [.ref a0, .int i1] G cI cJ ad [(a0, .inr (1, [.ref a1, .ref a8, .ref a10, .ref a12, .int x_reachedCount, .int x_keyCount, .int x_vertexCount, .int x_seed])), (a10, .inr (6, [.ref a11])), (a11, .inl (cI, 360, .inl f_values))] x [(a0, .inr (1, [.ref a1, .ref a8, .ref a10, .ref a12, .int x_reachedCount, .int x_keyCount, .int x_vertexCount, .int x_seed])), (a10, .inr (6, [.ref a11])), (a11, .inl (cI, 360, .inl f_values))] := by
  refine kk_ofI (cc := cX1_sumFor) (maxL := 4) (by decide) rfl (Nat.le_of_ble_eq_true rfl) ?_
  intro p e s m below meth c A Q ls H locs hx hb hml hown hts hE hw hl hret
  have F : kk_at p m c cX1_sumFor 4 s _ wsX1_sumFor RX1 G cI cJ ad A := ⟨⟨hx, hb, hml, hown, hts⟩, hE⟩
  have hl : lv_has ls 4 [(0, .ref a0), (1, .int i1)] := hl
  unfold F_X1_sumFor at hF0
  refine lv_aload_n hx hb dX1_sumFor_0 rfl (lv_at hl 0 rfl) ?_
  refine kk_get (T := TX1) F hw ui_X1_sumFor_X1 0 rfl rfl 2 (by decide) m_X1_sumFor_Cond_fieldLink_RX1_29_PerfectPew_Graph_values_LPerfectPew_Row_ rfl dX1_sumFor_1 ?_
  refine lv_aload_n hx hb dX1_sumFor_4 rfl (lv_at hl 0 rfl) ?_
  refine kk_gets 4 (by decide) F hw m_X1_sumFor_Cond_fieldLink_RX1_65_PerfectPew_Hash_ONE_END_LPerfectPew_Hash_ dX1_sumFor_5 ?_
  refine lv_iload_n hx hb dX1_sumFor_8 rfl (lv_at hl 1 rfl) ?_
  obtain ⟨v1, ev1, hF0⟩ := kk_bind hF0
  refine kk_callI 0 0 hw (kk_runV (As := [.ref (ad 4), .int i1]) (rest := [.ref a10]) F hw hl.1 (c_X1_vertexOf l G cI cJ ad a0 a1 a8 a10 a12 x_reachedCount x_keyCount x_vertexCount x_seed 4 i1 N v1 ev1 (by decide) H.size) gX1_sumFor_X1_vertexOf rfl ⟨rfl, md_X1_vertexOf⟩ ⟨Nat.le_of_ble_eq_true rfl, Nat.le_of_ble_eq_true rfl⟩ ⟨Nat.le_of_ble_eq_true rfl, Nat.le_of_ble_eq_true rfl⟩ 0 1 rfl rfl rfl rfl (Nat.le_of_ble_eq_true rfl) dX1_sumFor_9) ⟨rfl, rfl⟩ [0] (by decide) rfl rfl (fun H locs hw => ?_)
  have hw : kk_wd G A s.heap [(a0, .inr (1, [.ref a1, .ref a8, .ref a10, .ref a12, .int x_reachedCount, .int x_keyCount, .int x_vertexCount, .int x_seed])), (a10, .inr (6, [.ref a11])), (a11, .inl (cI, 360, .inl f_values))] H locs := hw
  obtain ⟨v2, ev2, hF0⟩ := kk_bind hF0
  refine kk_callI 0 0 hw (kk_runN (As := [.int v1]) (rest := []) F hw hl.1 (c_X6_get l G cI cJ ad a10 a11 360 f_values v1 N v2 ev2 H.size) gX1_sumFor_X6_get_n87 rfl nl_53 m_X1_sumFor_Cond_initialized_yX6_get_cls m_X1_sumFor_Cond_instanceMethod_yX6_get m_X1_sumFor_Cond_selects_RX6_yX6_get_yX6_get md_X6_get ⟨Nat.le_of_ble_eq_true rfl, Nat.le_of_ble_eq_true rfl⟩ ⟨Nat.le_of_ble_eq_true rfl, Nat.le_of_ble_eq_true rfl⟩ 1 6 rfl rfl rfl rfl (Nat.le_of_ble_eq_true rfl) dX1_sumFor_12) ⟨rfl, rfl⟩ [1, 2] (by decide) rfl rfl (fun H locs hw => ?_)
  have hw : kk_wd G A s.heap [(a0, .inr (1, [.ref a1, .ref a8, .ref a10, .ref a12, .int x_reachedCount, .int x_keyCount, .int x_vertexCount, .int x_seed])), (a10, .inr (6, [.ref a11])), (a11, .inl (cI, 360, .inl f_values))] H locs := hw
  refine lv_istore_n (lv' := [(2, .int v2), (0, .ref a0), (1, .int i1)]) hx hb dX1_sumFor_15 rfl hl (by decide) rfl (fun ls hl => ?_)
  refine lv_aload_n hx hb dX1_sumFor_16 rfl (lv_at hl 1 rfl) ?_
  refine kk_get (T := TX1) F hw ui_X1_sumFor_X1 0 rfl rfl 2 (by decide) m_X1_sumFor_Cond_fieldLink_RX1_29_PerfectPew_Graph_values_LPerfectPew_Row_ rfl dX1_sumFor_17 ?_
  refine lv_aload_n hx hb dX1_sumFor_20 rfl (lv_at hl 1 rfl) ?_
  refine kk_gets 5 (by decide) F hw m_X1_sumFor_Cond_fieldLink_RX1_78_PerfectPew_Hash_OTHER_END_LPerfectPew_Hash_ dX1_sumFor_21 ?_
  refine lv_iload_n hx hb dX1_sumFor_24 rfl (lv_at hl 2 rfl) ?_
  obtain ⟨v3, ev3, hF0⟩ := kk_bind hF0
  refine kk_callI 0 0 hw (kk_runV (As := [.ref (ad 5), .int i1]) (rest := [.ref a10]) F hw hl.1 (c_X1_vertexOf l G cI cJ ad a0 a1 a8 a10 a12 x_reachedCount x_keyCount x_vertexCount x_seed 5 i1 N v3 ev3 (by decide) H.size) gX1_sumFor_X1_vertexOf rfl ⟨rfl, md_X1_vertexOf⟩ ⟨Nat.le_of_ble_eq_true rfl, Nat.le_of_ble_eq_true rfl⟩ ⟨Nat.le_of_ble_eq_true rfl, Nat.le_of_ble_eq_true rfl⟩ 0 1 rfl rfl rfl rfl (Nat.le_of_ble_eq_true rfl) dX1_sumFor_25) ⟨rfl, rfl⟩ [0] (by decide) rfl rfl (fun H locs hw => ?_)
  have hw : kk_wd G A s.heap [(a0, .inr (1, [.ref a1, .ref a8, .ref a10, .ref a12, .int x_reachedCount, .int x_keyCount, .int x_vertexCount, .int x_seed])), (a10, .inr (6, [.ref a11])), (a11, .inl (cI, 360, .inl f_values))] H locs := hw
  obtain ⟨v4, ev4, hF0⟩ := kk_bind hF0
  refine kk_callI 0 0 hw (kk_runN (As := [.int v3]) (rest := []) F hw hl.1 (c_X6_get l G cI cJ ad a10 a11 360 f_values v3 N v4 ev4 H.size) gX1_sumFor_X6_get_n87 rfl nl_53 m_X1_sumFor_Cond_initialized_yX6_get_cls m_X1_sumFor_Cond_instanceMethod_yX6_get m_X1_sumFor_Cond_selects_RX6_yX6_get_yX6_get md_X6_get ⟨Nat.le_of_ble_eq_true rfl, Nat.le_of_ble_eq_true rfl⟩ ⟨Nat.le_of_ble_eq_true rfl, Nat.le_of_ble_eq_true rfl⟩ 1 6 rfl rfl rfl rfl (Nat.le_of_ble_eq_true rfl) dX1_sumFor_28) ⟨rfl, rfl⟩ [1, 2] (by decide) rfl rfl (fun H locs hw => ?_)
  have hw : kk_wd G A s.heap [(a0, .inr (1, [.ref a1, .ref a8, .ref a10, .ref a12, .int x_reachedCount, .int x_keyCount, .int x_vertexCount, .int x_seed])), (a10, .inr (6, [.ref a11])), (a11, .inl (cI, 360, .inl f_values))] H locs := hw
  refine lv_istore_n (lv' := [(3, .int v4), (2, .int v2), (0, .ref a0), (1, .int i1)]) hx hb dX1_sumFor_31 rfl hl (by decide) rfl (fun ls hl => ?_)
  refine lv_iload_n hx hb dX1_sumFor_32 rfl (lv_at hl 1 rfl) ?_
  refine lv_iload_n hx hb dX1_sumFor_33 rfl (lv_at hl 0 rfl) ?_
  refine lv_iadd hx hb dX1_sumFor_34 ?_
  refine lv_aload_n hx hb dX1_sumFor_35 rfl (lv_at hl 2 rfl) ?_
  refine kk_get (T := TX1) F hw ui_X1_sumFor_X1 0 rfl rfl 5 (by decide) m_X1_sumFor_Cond_fieldLink_RX1_41_PerfectPew_Graph_keyCount_I_ rfl dX1_sumFor_36 ?_
  obtain ⟨v5, ev5, hF0⟩ := kk_bind hF0
  refine kk_callI 0 0 hw (kk_runSN (As := [.int (v2 + v4), .int x_keyCount]) (rest := []) F hw hl.1 (c_X7_remainder l G cI cJ ad (v2 + v4) x_keyCount N v5 ev5 H.size) gX1_sumFor_X7_remainder_n118 rfl nl_49 m_X1_sumFor_Cond_initialized_yX7_remainder_cls m_X1_sumFor_Cond_static_yX7_remainder md_X7_remainder ⟨Nat.le_of_ble_eq_true rfl, Nat.le_of_ble_eq_true rfl⟩ ⟨Nat.le_of_ble_eq_true rfl, Nat.le_of_ble_eq_true rfl⟩ rfl (Nat.le_of_ble_eq_true rfl) dX1_sumFor_39) ⟨rfl, rfl⟩ [] (by decide) rfl rfl (fun H locs hw => ?_)
  have hy := Option.some.inj hF0
  subst hy
  exact hret dX1_sumFor_42 (by decide) (by decide) hw
