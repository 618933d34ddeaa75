set_option maxRecDepth 100000 in
set_option maxHeartbeats 4000000 in
theorem c_X7_dividedUp (l : Launch) (G : va_G) (cI cJ : ClassId) (ad : Nat → Nat) (i0 : Int32) (i1 : Int32) (N : Nat) (x : Int32) (hF0 : F_X7_dividedUp N i0 i1 = some x) : kk_I l yX7_dividedUp wsX7_dividedUp 0 0 0 0 [.int i0, .int i1] G cI cJ ad [] x [] := by
  refine kk_ofI (cc := cX7_dividedUp) (maxL := 2) (by decide) rfl (Nat.le_of_ble_eq_true rfl) ?_
  intro p e s m below meth c A Q ls H locs hx hb hml hown hts hE hw hl hret
  have F : kk_at p m c cX7_dividedUp 2 s _ wsX7_dividedUp RX7 G cI cJ ad A := ⟨⟨hx, hb, hml, hown, hts⟩, hE⟩
  have hl : lv_has ls 2 [(0, .int i0), (1, .int i1)] := hl
  unfold F_X7_dividedUp at hF0
  have hJ1 : ∀ (s0_1 : Int32), J_X7_dividedUp_15 N s0_1 = some x → ∀ (H : Heap) (locs : List Loc) (ls : Array Slot), kk_wd G A s.heap [] H locs → lv_has ls 2 [] → W p l e (kk_rm 0 0 0 0) s m ([.int i0, .int i1] : List Value).toArray below meth c H locs 0 0 Q (F0 m 15 ls [.int s0_1]) := by
    intro s0_1 hF0 H locs ls hw hl
    unfold J_X7_dividedUp_15 at hF0
    have hy := Option.some.inj hF0
    subst hy
    exact hret dX7_dividedUp_15 (by decide) (by decide) hw
  refine lv_iload_n hx hb dX7_dividedUp_0 rfl (lv_at hl 1 rfl) ?_
  refine lv_if_le (tgt := 14) hx hb dX7_dividedUp_1 (by decide) (fun c2 => ?_) (fun c2 => ?_)
  · have hF0 := (if_pos c2).symm.trans hF0
    refine lv_iconst (v := 0) hx hb dX7_dividedUp_14 (by decide) ?_
    exact hJ1 0 hF0 _ _ _ hw (lv_sub hl [] rfl)
  · have hF0 := (if_neg c2).symm.trans hF0
    refine lv_iload_n hx hb dX7_dividedUp_4 rfl (lv_at hl 0 rfl) ?_
    refine lv_iload_n hx hb dX7_dividedUp_5 rfl (lv_at hl 1 rfl) ?_
    refine lv_iadd hx hb dX7_dividedUp_6 ?_
    refine lv_iconst (v := 1) hx hb dX7_dividedUp_7 (by decide) ?_
    refine lv_isub hx hb dX7_dividedUp_8 ?_
    refine lv_iload_n hx hb dX7_dividedUp_9 rfl (lv_at hl 1 rfl) ?_
    obtain ⟨u3, eu3, hF0⟩ := kk_bind hF0
    refine lv_idiv hx hb dX7_dividedUp_10 (kk_nz_ok eu3) ?_
    refine lv_goto (tgt := 15) hx hb dX7_dividedUp_11 (by decide) ?_
    exact hJ1 (kk_div ((i0 + i1) - 1) i1) hF0 _ _ _ hw (lv_sub hl [] rfl)
set_option maxRecDepth 100000 in
set_option maxHeartbeats 4000000 in
theorem c_J7_fill_53178 (l : Launch) (G : va_G) (cI cJ : ClassId) (ad : Nat → Nat) (a0 : Nat) (n_arr : Nat) (f_arr : Nat → Int32) (i1 : Int32) (N : Nat) (x : (Nat → Int32)) (hF0 : F_J7_fill_53178 N n_arr f_arr i1 = some x) : kk_V l yJ7_fill_53178 wsJ7_fill_53178 0 0 0 0 [.ref a0, .int i1] G cI cJ ad [(a0, .inl (cI, n_arr, .inl f_arr))] [(a0, .inl (cI, n_arr, .inl x))] := by
  refine kk_ofV (cc := cJ7_fill_53178) (maxL := 4) (by decide) rfl (Nat.le_of_ble_eq_true rfl) ?_
  intro p e s m below meth c A Q ls H locs hx hb hml hown hts hE hw hl hret
  have F : kk_at p m c cJ7_fill_53178 4 s _ wsJ7_fill_53178 RJ7 G cI cJ ad A := ⟨⟨hx, hb, hml, hown, hts⟩, hE⟩
  have hl : lv_has ls 4 [(0, .ref a0), (1, .int i1)] := hl
  unfold F_J7_fill_53178 at hF0
  have hJ1 : ∀ (f_arr_1 : Nat → Int32), J_J7_fill_53178_20 N f_arr_1 = some x → ∀ (H : Heap) (locs : List Loc) (ls : Array Slot), kk_wd G A s.heap [(a0, .inl (cI, n_arr, .inl f_arr_1))] H locs → lv_has ls 4 [] → W p l e (kk_rm 0 0 0 0) s m ([.ref a0, .int i1] : List Value).toArray below meth c H locs 0 0 Q (F0 m 20 ls []) := by
    intro f_arr_1 hF0 H locs ls hw hl
    unfold J_J7_fill_53178_20 at hF0
    have hy := Option.some.inj hF0
    subst hy
    exact hret dJ7_fill_53178_20 (by decide) (by decide) hw
  refine lv_iconst (v := 0) hx hb dJ7_fill_53178_0 (by decide) ?_
  refine lv_istore_n (lv' := [(2, .int 0), (0, .ref a0), (1, .int i1)]) hx hb dJ7_fill_53178_1 rfl hl (by decide) rfl (fun ls hl => ?_)
  refine lv_aload_n hx hb dJ7_fill_53178_2 rfl (lv_at hl 1 rfl) ?_
  refine kk_alenI F hw 0 rfl dJ7_fill_53178_3 ?_
  refine lv_istore_n (lv' := [(3, .int (nI n_arr)), (2, .int 0), (0, .ref a0), (1, .int i1)]) hx hb dJ7_fill_53178_4 rfl hl (by decide) rfl (fun ls hl => ?_)
  obtain ⟨z2, hz3, hF0⟩ := kk_bind hF0
  have hL3 : ∀ (n3 : Nat) (f_arr_3 : Nat → Int32) (i2_3 : Int32), kk_iter (fun (σ : ((Nat → Int32) × Int32)) => L_J7_fill_53178_5 N n_arr i1 (nI n_arr) σ.1 σ.2) n3 (f_arr_3, i2_3) = some z2 → ∀ (H : Heap) (locs : List Loc) (ls : Array Slot), kk_wd G A s.heap [(a0, .inl (cI, n_arr, .inl f_arr_3))] H locs → lv_has ls 4 [(0, .ref a0), (1, .int i1), (2, .int i2_3), (3, .int (nI n_arr))] → W p l e (kk_rm 0 0 0 0) s m ([.ref a0, .int i1] : List Value).toArray below meth c H locs 0 0 Q (F0 m 5 ls []) := by
    intro n3
    induction n3 with
    | zero => intro f_arr_3 i2_3 h; exact kk_iter0 h
    | succ n3 ih3 =>
      intro f_arr_3 i2_3 hq H locs ls hw hl
      obtain ⟨y3, hF1, hI1⟩ := kk_iterS hq
      have hF1 : L_J7_fill_53178_5 N n_arr i1 (nI n_arr) f_arr_3 i2_3 = some y3 := hF1
      unfold L_J7_fill_53178_5 at hF1
      refine lv_iload_n hx hb dJ7_fill_53178_5 rfl (lv_at hl 2 rfl) ?_
      refine lv_iload_n hx hb dJ7_fill_53178_6 rfl (lv_at hl 3 rfl) ?_
      refine lv_icmp_ge (tgt := 20) hx hb dJ7_fill_53178_7 (by decide) (fun c4 => ?_) (fun c4 => ?_)
      · have hF1 := (if_pos c4).symm.trans hF1
        have hy := Option.some.inj hF1
        subst hy
        have hz := Option.some.inj hI1
        subst hz
        exact hJ1 f_arr_3 hF0 _ _ _ hw (lv_sub hl [] rfl)
      · have hF1 := (if_neg c4).symm.trans hF1
        refine lv_aload_n hx hb dJ7_fill_53178_10 rfl (lv_at hl 0 rfl) ?_
        refine lv_iload_n hx hb dJ7_fill_53178_11 rfl (lv_at hl 2 rfl) ?_
        refine lv_iload_n hx hb dJ7_fill_53178_12 rfl (lv_at hl 1 rfl) ?_
        obtain ⟨w5, ew5, hF1⟩ := kk_bind hF1
        refine kk_iast F hw 0 rfl ew5 dJ7_fill_53178_13 (fun H locs hw => ?_)
        have hw : kk_wd G A s.heap [(a0, .inl (cI, n_arr, .inl w5))] H locs := hw
        refine lv_iinc (v := (i2_3 + 1)) (lv' := [(2, .int (i2_3 + 1)), (0, .ref a0), (1, .int i1), (3, .int (nI n_arr))]) hx hb dJ7_fill_53178_14 hl (k := 2) rfl rfl (by decide) rfl (fun ls hl => ?_)
        refine lv_goto (tgt := 5) hx hb dJ7_fill_53178_17 (by decide) ?_
        have hy := Option.some.inj hF1
        subst hy
        exact ih3 w5 (i2_3 + 1) hI1 _ _ _ hw (lv_sub hl [1, 2, 0, 3] rfl)
  exact hL3 N f_arr 0 hz3 _ _ _ hw (lv_sub hl [2, 3, 1, 0] rfl)
theorem ui_X6_fill_X6 : ∀ w ∈ u_ws RX6 TX6 1, w ∈ wsX6_fill := by decide +kernel
theorem m_X6_fill_Cond_fieldLink_RX6_13_PerfectPew_Row_cells_I_ : Cond.fieldLink RX6 13 "PerfectPew$Row" "cells" "[I" ∈ wsX6_fill := by decide +kernel
set_option maxRecDepth 100000 in
set_option maxHeartbeats 4000000 in
theorem c_X6_fill (l : Launch) (G : va_G) (cI cJ : ClassId) (ad : Nat → Nat) (a0 a1 : Nat) (n_cells : Nat) (f_cells : Nat → Int32) (i1 : Int32) (N : Nat) (x : (Nat → Int32)) (hF0 : F_X6_fill N n_cells f_cells i1 = some x) : kk_V l yX6_fill wsX6_fill 1 0 0 23 [.ref a0, .int i1] G cI cJ ad [(a0, .inr (6, [.ref a1])), (a1, .inl (cI, n_cells, .inl f_cells))] [(a0, .inr (6, [.ref a1])), (a1, .inl (cI, n_cells, .inl x))] := by
  refine kk_ofV (cc := cX6_fill) (maxL := 2) (by decide) rfl (Nat.le_of_ble_eq_true rfl) ?_
  intro p e s m below meth c A Q ls H locs hx hb hml hown hts hE hw hl hret
  have F : kk_at p m c cX6_fill 2 s _ wsX6_fill RX6 G cI cJ ad A := ⟨⟨hx, hb, hml, hown, hts⟩, hE⟩
  have hl : lv_has ls 2 [(0, .ref a0), (1, .int i1)] := hl
  unfold F_X6_fill at hF0
  refine lv_aload_n hx hb dX6_fill_0 rfl (lv_at hl 0 rfl) ?_
  refine kk_get (T := TX6) F hw ui_X6_fill_X6 0 rfl rfl 0 (by decide) m_X6_fill_Cond_fieldLink_RX6_13_PerfectPew_Row_cells_I_ rfl dX6_fill_1 ?_
  refine lv_iload_n hx hb dX6_fill_4 rfl (lv_at hl 1 rfl) ?_
  obtain ⟨v1, ev1, hF0⟩ := kk_bind hF0
  refine kk_callV 0 0 hw (kk_runS (As := [.ref a1, .int i1]) (rest := []) F hw hl.1 (c_J7_fill_53178 l G cI cJ ad a1 n_cells f_cells i1 N v1 ev1 H.size) gX6_fill_J7_fill_53178 rfl md_J7_fill_53178 ⟨Nat.le_of_ble_eq_true rfl, Nat.le_of_ble_eq_true rfl⟩ ⟨Nat.le_of_ble_eq_true rfl, Nat.le_of_ble_eq_true rfl⟩ rfl (Nat.le_of_ble_eq_true rfl) dX6_fill_5) ⟨rfl, rfl⟩ [1] (by decide) rfl rfl (fun H locs hw => ?_)
  have hw : kk_wd G A s.heap [(a0, .inr (6, [.ref a1])), (a1, .inl (cI, n_cells, .inl v1))] H locs := hw
  have hy := Option.some.inj hF0
  subst hy
  exact hret dX6_fill_8 (by decide) (by decide) hw
theorem ui_X2_restart_X2 : ∀ w ∈ u_ws RX2 TX2 5, w ∈ wsX2_restart := by decide +kernel
theorem m_X2_restart_Cond_fieldLink_RX2_24_PerfectPew_Groups_thingCount_I_ : Cond.fieldLink RX2 24 "PerfectPew$Groups" "thingCount" "I" ∈ wsX2_restart := by decide +kernel
theorem m_X2_restart_Cond_fieldLink_RX2_28_PerfectPew_Groups_groupCount_I_ : Cond.fieldLink RX2 28 "PerfectPew$Groups" "groupCount" "I" ∈ wsX2_restart := by decide +kernel
theorem m_X2_restart_Cond_fieldLink_RX2_18_PerfectPew_Groups_begins_LPerfectPew_Row_ : Cond.fieldLink RX2 18 "PerfectPew$Groups" "begins" "LPerfectPew$Row;" ∈ wsX2_restart := by decide +kernel
theorem m_X2_restart_Cond_initialized_yX6_fill_cls : Cond.initialized yX6_fill.cls ∈ wsX2_restart := by decide +kernel
theorem m_X2_restart_Cond_instanceMethod_yX6_fill : Cond.instanceMethod yX6_fill ∈ wsX2_restart := by decide +kernel
theorem m_X2_restart_Cond_selects_RX6_yX6_fill_yX6_fill : Cond.selects RX6 yX6_fill yX6_fill ∈ wsX2_restart := by decide +kernel
set_option maxRecDepth 100000 in
set_option maxHeartbeats 4000000 in
theorem c_X2_restart (l : Launch) (G : va_G) (cI cJ : ClassId) (ad : Nat → Nat) (a0 a1 a3 a4 a5 : Nat) (x_thingCount : Int32) (x_groupCount : Int32) (n_begins : Nat) (f_begins : Nat → Int32) (i1 : Int32) (i2 : Int32) (N : Nat) (x : (Int32 × Int32 × (Nat → Int32))) (hF0 : F_X2_restart N x_thingCount x_groupCount n_begins f_begins i1 i2 = some x) : kk_V l yX2_restart wsX2_restart 2 0 0 44 [.ref a0, .int i1, .int i2] G cI cJ ad [(a0, .inr (2, [.ref a1, .ref a3, .ref a5, .int x_thingCount, .int x_groupCount])), (a3, .inr (6, [.ref a4])), (a4, .inl (cI, n_begins, .inl f_begins))] [(a0, .inr (2, [.ref a1, .ref a3, .ref a5, .int x.1, .int x.2.1])), (a3, .inr (6, [.ref a4])), (a4, .inl (cI, n_begins, .inl x.2.2))] := by
  refine kk_ofV (cc := cX2_restart) (maxL := 3) (by decide) rfl (Nat.le_of_ble_eq_true rfl) ?_
  intro p e s m below meth c A Q ls H locs hx hb hml hown hts hE hw hl hret
  have F : kk_at p m c cX2_restart 3 s _ wsX2_restart RX2 G cI cJ ad A := ⟨⟨hx, hb, hml, hown, hts⟩, hE⟩
  have hl : lv_has ls 3 [(0, .ref a0), (1, .int i1), (2, .int i2)] := hl
  unfold F_X2_restart at hF0
  refine lv_aload_n hx hb dX2_restart_0 rfl (lv_at hl 0 rfl) ?_
  refine lv_iload_n hx hb dX2_restart_1 rfl (lv_at hl 1 rfl) ?_
  refine kk_put F hw ui_X2_restart_X2 tyX2 tyX2_ok nmX2 0 rfl rfl 3 (by decide) m_X2_restart_Cond_fieldLink_RX2_24_PerfectPew_Groups_thingCount_I_ rfl rfl rfl (Nat.le_of_ble_eq_true rfl) dX2_restart_2 (fun H locs hw => ?_)
  have hw : kk_wd G A s.heap [(a0, .inr (2, [.ref a1, .ref a3, .ref a5, .int i1, .int x_groupCount])), (a3, .inr (6, [.ref a4])), (a4, .inl (cI, n_begins, .inl f_begins))] H locs := hw
  refine lv_aload_n hx hb dX2_restart_5 rfl (lv_at hl 0 rfl) ?_
  refine lv_iload_n hx hb dX2_restart_6 rfl (lv_at hl 2 rfl) ?_
  refine kk_put F hw ui_X2_restart_X2 tyX2 tyX2_ok nmX2 0 rfl rfl 4 (by decide) m_X2_restart_Cond_fieldLink_RX2_28_PerfectPew_Groups_groupCount_I_ rfl rfl rfl (Nat.le_of_ble_eq_true rfl) dX2_restart_7 (fun H locs hw => ?_)
  have hw : kk_wd G A s.heap [(a0, .inr (2, [.ref a1, .ref a3, .ref a5, .int i1, .int i2])), (a3, .inr (6, [.ref a4])), (a4, .inl (cI, n_begins, .inl f_begins))] H locs := hw
  refine lv_aload_n hx hb dX2_restart_10 rfl (lv_at hl 0 rfl) ?_
  refine kk_get (T := TX2) F hw ui_X2_restart_X2 0 rfl rfl 1 (by decide) m_X2_restart_Cond_fieldLink_RX2_18_PerfectPew_Groups_begins_LPerfectPew_Row_ rfl dX2_restart_11 ?_
  refine lv_iconst (v := 0) hx hb dX2_restart_14 (by decide) ?_
  obtain ⟨v1, ev1, hF0⟩ := kk_bind hF0
  refine kk_callV 0 0 hw (kk_runN (As := [.int 0]) (rest := []) F hw hl.1 (c_X6_fill l G cI cJ ad a3 a4 n_begins f_begins 0 N v1 ev1 H.size) gX2_restart_X6_fill_n31 rfl nl_30 m_X2_restart_Cond_initialized_yX6_fill_cls m_X2_restart_Cond_instanceMethod_yX6_fill m_X2_restart_Cond_selects_RX6_yX6_fill_yX6_fill md_X6_fill ⟨Nat.le_of_ble_eq_true rfl, Nat.le_of_ble_eq_true rfl⟩ ⟨Nat.le_of_ble_eq_true rfl, Nat.le_of_ble_eq_true rfl⟩ 1 6 rfl rfl rfl rfl (Nat.le_of_ble_eq_true rfl) dX2_restart_15) ⟨rfl, rfl⟩ [1, 2] (by decide) rfl rfl (fun H locs hw => ?_)
  have hw : kk_wd G A s.heap [(a0, .inr (2, [.ref a1, .ref a3, .ref a5, .int i1, .int i2])), (a3, .inr (6, [.ref a4])), (a4, .inl (cI, n_begins, .inl v1))] H locs := hw
  have hy := Option.some.inj hF0
  subst hy
  exact hret dX2_restart_18 (by decide) (by decide) hw
theorem ui_X6_get_X6 : ∀ w ∈ u_ws RX6 TX6 1, w ∈ wsX6_get := by decide +kernel
theorem m_X6_get_Cond_fieldLink_RX6_13_PerfectPew_Row_cells_I_ : Cond.fieldLink RX6 13 "PerfectPew$Row" "cells" "[I" ∈ wsX6_get := by decide +kernel
set_option maxRecDepth 100000 in
set_option maxHeartbeats 4000000 in
theorem c_X6_get (l : Launch) (G : va_G) (cI cJ : ClassId) (ad : Nat → Nat) (a0 a1 : Nat) (n_cells : Nat) (f_cells : Nat → Int32) (i1 : Int32) (N : Nat) (x : Int32) (hF0 : F_X6_get N n_cells f_cells i1 = some x) : kk_I l yX6_get wsX6_get 0 0 0 0 [.ref a0, .int i1] G cI cJ ad [(a0, .inr (6, [.ref a1])), (a1, .inl (cI, n_cells, .inl f_cells))] x [(a0, .inr (6, [.ref a1])), (a1, .inl (cI, n_cells, .inl f_cells))] := by
  refine kk_ofI (cc := cX6_get) (maxL := 2) (by decide) rfl (Nat.le_of_ble_eq_true rfl) ?_
  intro p e s m below meth c A Q ls H locs hx hb hml hown hts hE hw hl hret
  have F : kk_at p m c cX6_get 2 s _ wsX6_get RX6 G cI cJ ad A := ⟨⟨hx, hb, hml, hown, hts⟩, hE⟩
  have hl : lv_has ls 2 [(0, .ref a0), (1, .int i1)] := hl
  unfold F_X6_get at hF0
  have hJ1 : ∀ (s0_1 : Int32), J_X6_get_23 N s0_1 = some x → ∀ (H : Heap) (locs : List Loc) (ls : Array Slot), kk_wd G A s.heap [(a0, .inr (6, [.ref a1])), (a1, .inl (cI, n_cells, .inl f_cells))] H locs → lv_has ls 2 [] → W p l e (kk_rm 0 0 0 0) s m ([.ref a0, .int i1] : List Value).toArray below meth c H locs 0 0 Q (F0 m 23 ls [.int s0_1]) := by
    intro s0_1 hF0 H locs ls hw hl
    unfold J_X6_get_23 at hF0
    have hy := Option.some.inj hF0
    subst hy
    exact hret dX6_get_23 (by decide) (by decide) hw
  have hJ2 : ∀ (_ : Unit), J_X6_get_22 N = some x → ∀ (H : Heap) (locs : List Loc) (ls : Array Slot), kk_wd G A s.heap [(a0, .inr (6, [.ref a1])), (a1, .inl (cI, n_cells, .inl f_cells))] H locs → lv_has ls 2 [] → W p l e (kk_rm 0 0 0 0) s m ([.ref a0, .int i1] : List Value).toArray below meth c H locs 0 0 Q (F0 m 22 ls []) := by
    intro _ hF0 H locs ls hw hl
    unfold J_X6_get_22 at hF0
    refine lv_iconst (v := 0) hx hb dX6_get_22 (by decide) ?_
    exact hJ1 0 hF0 _ _ _ hw (lv_sub hl [] rfl)
  refine lv_iload_n hx hb dX6_get_0 rfl (lv_at hl 1 rfl) ?_
  refine lv_if_lt (tgt := 22) hx hb dX6_get_1 (by decide) (fun c3 => ?_) (fun c3 => ?_)
  · have hF0 := (if_pos c3).symm.trans hF0
    exact hJ2 ()  hF0 _ _ _ hw (lv_sub hl [] rfl)
  · have hF0 := (if_neg c3).symm.trans hF0
    refine lv_iload_n hx hb dX6_get_4 rfl (lv_at hl 1 rfl) ?_
    refine lv_aload_n hx hb dX6_get_5 rfl (lv_at hl 0 rfl) ?_
    refine kk_get (T := TX6) F hw ui_X6_get_X6 0 rfl rfl 0 (by decide) m_X6_get_Cond_fieldLink_RX6_13_PerfectPew_Row_cells_I_ rfl dX6_get_6 ?_
    refine kk_alenI F hw 1 rfl dX6_get_9 ?_
    refine lv_icmp_ge (tgt := 22) hx hb dX6_get_10 (by decide) (fun c4 => ?_) (fun c4 => ?_)
    · have hF0 := (if_pos c4).symm.trans hF0
      exact hJ2 ()  hF0 _ _ _ hw (lv_sub hl [] rfl)
    · have hF0 := (if_neg c4).symm.trans hF0
      refine lv_aload_n hx hb dX6_get_13 rfl (lv_at hl 0 rfl) ?_
      refine kk_get (T := TX6) F hw ui_X6_get_X6 0 rfl rfl 0 (by decide) m_X6_get_Cond_fieldLink_RX6_13_PerfectPew_Row_cells_I_ rfl dX6_get_14 ?_
      refine lv_iload_n hx hb dX6_get_17 rfl (lv_at hl 1 rfl) ?_
      obtain ⟨v5, ev5, hF0⟩ := kk_bind hF0
      refine kk_iald F hw 1 rfl ev5 dX6_get_18 ?_
      refine lv_goto (tgt := 23) hx hb dX6_get_19 (by decide) ?_
      exact hJ1 v5 hF0 _ _ _ hw (lv_sub hl [] rfl)
theorem ui_X4_at_X4 : ∀ w ∈ u_ws RX4 TX4 2, w ∈ wsX4_at := by decide +kernel
theorem m_X4_at_Cond_fieldLink_RX4_14_PerfectPew_KeyList_places_LPerfectPew_Row_ : Cond.fieldLink RX4 14 "PerfectPew$KeyList" "places" "LPerfectPew$Row;" ∈ wsX4_at := by decide +kernel
theorem m_X4_at_Cond_initialized_yX6_get_cls : Cond.initialized yX6_get.cls ∈ wsX4_at := by decide +kernel
theorem m_X4_at_Cond_instanceMethod_yX6_get : Cond.instanceMethod yX6_get ∈ wsX4_at := by decide +kernel
theorem m_X4_at_Cond_selects_RX6_yX6_get_yX6_get : Cond.selects RX6 yX6_get yX6_get ∈ wsX4_at := by decide +kernel
set_option maxRecDepth 100000 in
set_option maxHeartbeats 4000000 in
theorem c_X4_at (l : Launch) (G : va_G) (cI cJ : ClassId) (ad : Nat → Nat) (a0 a1 a2 : Nat) (x_size : Int32) (f_places : Nat → Int32) (i1 : Int32) (N : Nat) (x : Int32) (hF0 : F_X4_at N f_places i1 = some x) : kk_I l yX4_at wsX4_at 1 0 0 21 [.ref a0, .int i1] G cI cJ ad [(a0, .inr (4, [.ref a1, .int x_size])), (a1, .inr (6, [.ref a2])), (a2, .inl (cI, 120, .inl f_places))] x [(a0, .inr (4, [.ref a1, .int x_size])), (a1, .inr (6, [.ref a2])), (a2, .inl (cI, 120, .inl f_places))] := by
  refine kk_ofI (cc := cX4_at) (maxL := 2) (by decide) rfl (Nat.le_of_ble_eq_true rfl) ?_
  intro p e s m below meth c A Q ls H locs hx hb hml hown hts hE hw hl hret
  have F : kk_at p m c cX4_at 2 s _ wsX4_at RX4 G cI cJ ad A := ⟨⟨hx, hb, hml, hown, hts⟩, hE⟩
  have hl : lv_has ls 2 [(0, .ref a0), (1, .int i1)] := hl
  unfold F_X4_at at hF0
  refine lv_aload_n hx hb dX4_at_0 rfl (lv_at hl 0 rfl) ?_
  refine kk_get (T := TX4) F hw ui_X4_at_X4 0 rfl rfl 0 (by decide) m_X4_at_Cond_fieldLink_RX4_14_PerfectPew_KeyList_places_LPerfectPew_Row_ rfl dX4_at_1 ?_
  refine lv_iload_n hx hb dX4_at_4 rfl (lv_at hl 1 rfl) ?_
  obtain ⟨v1, ev1, hF0⟩ := kk_bind hF0
  refine kk_callI 0 0 hw (kk_runN (As := [.int i1]) (rest := []) F hw hl.1 (c_X6_get l G cI cJ ad a1 a2 120 f_places i1 N v1 ev1 H.size) gX4_at_X6_get_n20 rfl nl_22 m_X4_at_Cond_initialized_yX6_get_cls m_X4_at_Cond_instanceMethod_yX6_get m_X4_at_Cond_selects_RX6_yX6_get_yX6_get md_X6_get ⟨Nat.le_of_ble_eq_true rfl, Nat.le_of_ble_eq_true rfl⟩ ⟨Nat.le_of_ble_eq_true rfl, Nat.le_of_ble_eq_true rfl⟩ 1 6 rfl rfl rfl rfl (Nat.le_of_ble_eq_true rfl) dX4_at_5) ⟨rfl, rfl⟩ [1, 2] (by decide) rfl rfl (fun H locs hw => ?_)
  have hw : kk_wd G A s.heap [(a0, .inr (4, [.ref a1, .int x_size])), (a1, .inr (6, [.ref a2])), (a2, .inl (cI, 120, .inl f_places))] H locs := hw
  have hy := Option.some.inj hF0
  subst hy
  exact hret dX4_at_8 (by decide) (by decide) hw
theorem m_X3_of_Cond_fieldLink_RX3_43_PerfectPew_Hash_perKey_J_ : Cond.fieldLink RX3 43 "PerfectPew$Hash" "perKey" "J" ∈ wsX3_of := by decide +kernel
theorem m_X3_of_Cond_fieldLink_RX3_47_PerfectPew_Hash_perSeed_J_ : Cond.fieldLink RX3 47 "PerfectPew$Hash" "perSeed" "J" ∈ wsX3_of := by decide +kernel
theorem m_X3_of_Cond_fieldLink_RX3_50_PerfectPew_Hash_more_J_ : Cond.fieldLink RX3 50 "PerfectPew$Hash" "more" "J" ∈ wsX3_of := by decide +kernel
theorem m_X3_of_Cond_constantLong_RX3_53_1000003_ : Cond.constantLong RX3 53 (1000003) ∈ wsX3_of := by decide +kernel
set_option maxRecDepth 100000 in
set_option maxHeartbeats 4000000 in
theorem c_X3_of (l : Launch) (G : va_G) (cI cJ : ClassId) (ad : Nat → Nat) (k0 : Nat) (i1 : Int32) (i2 : Int32) (N : Nat) (x : Int32) (hF0 : F_X3_of N k0 i1 i2 = some x) (hkk0 : k0 < 6) : kk_I l yX3_of wsX3_of 0 0 0 0 [.ref (ad k0), .int i1, .int i2] G cI cJ ad [] x [] := by
  refine kk_ofI (cc := cX3_of) (maxL := 3) (by decide) rfl (Nat.le_of_ble_eq_true rfl) ?_
  intro p e s m below meth c A Q ls H locs hx hb hml hown hts hE hw hl hret
  have F : kk_at p m c cX3_of 3 s _ wsX3_of RX3 G cI cJ ad A := ⟨⟨hx, hb, hml, hown, hts⟩, hE⟩
  have hl : lv_has ls 3 [(0, .ref (ad k0)), (1, .int i1), (2, .int i2)] := hl
  unfold F_X3_of at hF0
  refine lv_iload_n hx hb dX3_of_0 rfl (lv_at hl 1 rfl) ?_
  refine lv_i2l hx hb dX3_of_1 rfl ?_
  refine lv_aload_n hx hb dX3_of_2 rfl (lv_at hl 0 rfl) ?_
  refine kk_getOF F hw (F.2.2.2.1 k0 hkk0).2.2.1 m_X3_of_Cond_fieldLink_RX3_43_PerfectPew_Hash_perKey_J_ dX3_of_3 ?_
  refine lv_lmul hx hb dX3_of_6 ?_
  refine lv_iload_n hx hb dX3_of_7 rfl (lv_at hl 2 rfl) ?_
  refine lv_i2l hx hb dX3_of_8 rfl ?_
  refine lv_aload_n hx hb dX3_of_9 rfl (lv_at hl 0 rfl) ?_
  refine kk_getOF F hw (F.2.2.2.1 k0 hkk0).2.2.2.1 m_X3_of_Cond_fieldLink_RX3_47_PerfectPew_Hash_perSeed_J_ dX3_of_10 ?_
  refine lv_lmul hx hb dX3_of_13 ?_
  refine lv_ladd hx hb dX3_of_14 ?_
  refine lv_aload_n hx hb dX3_of_15 rfl (lv_at hl 0 rfl) ?_
  refine kk_getOF F hw (F.2.2.2.1 k0 hkk0).2.2.2.2 m_X3_of_Cond_fieldLink_RX3_50_PerfectPew_Hash_more_J_ dX3_of_16 ?_
  refine lv_ladd hx hb dX3_of_19 ?_
  refine lv_ldc2 hx hb hown (hts _ m_X3_of_Cond_constantLong_RX3_53_1000003_) dX3_of_20 ?_
  refine lv_lrem hx hb dX3_of_23 (by decide) ?_
  refine lv_l2i hx hb dX3_of_24 rfl ?_
  have hy := Option.some.inj hF0
  subst hy
  exact hret dX3_of_25 (by decide) (by decide) hw
set_option maxRecDepth 100000 in
set_option maxHeartbeats 4000000 in
theorem c_X7_remainder (l : Launch) (G : va_G) (cI cJ : ClassId) (ad : Nat → Nat) (i0 : Int32) (i1 : Int32) (N : Nat) (x : Int32) (hF0 : F_X7_remainder N i0 i1 = some x) : kk_I l yX7_remainder wsX7_remainder 0 0 0 0 [.int i0, .int i1] G cI cJ ad [] x [] := by
  refine kk_ofI (cc := cX7_remainder) (maxL := 2) (by decide) rfl (Nat.le_of_ble_eq_true rfl) ?_
  intro p e s m below meth c A Q ls H locs hx hb hml hown hts hE hw hl hret
  have F : kk_at p m c cX7_remainder 2 s _ wsX7_remainder RX7 G cI cJ ad A := ⟨⟨hx, hb, hml, hown, hts⟩, hE⟩
  have hl : lv_has ls 2 [(0, .int i0), (1, .int i1)] := hl
  unfold F_X7_remainder at hF0
  have hJ1 : ∀ (s0_1 : Int32), J_X7_remainder_11 N s0_1 = some x → ∀ (H : Heap) (locs : List Loc) (ls : Array Slot), kk_wd G A s.heap [] H locs → lv_has ls 2 [] → W p l e (kk_rm 0 0 0 0) s m ([.int i0, .int i1] : List Value).toArray below meth c H locs 0 0 Q (F0 m 11 ls [.int s0_1]) := by
    intro s0_1 hF0 H locs ls hw hl
    unfold J_X7_remainder_11 at hF0
    have hy := Option.some.inj hF0
    subst hy
    exact hret dX7_remainder_11 (by decide) (by decide) hw
  refine lv_iload_n hx hb dX7_remainder_0 rfl (lv_at hl 1 rfl) ?_
  refine lv_if_le (tgt := 10) hx hb dX7_remainder_1 (by decide) (fun c2 => ?_) (fun c2 => ?_)
  · have hF0 := (if_pos c2).symm.trans hF0
    refine lv_iconst (v := 0) hx hb dX7_remainder_10 (by decide) ?_
    exact hJ1 0 hF0 _ _ _ hw (lv_sub hl [] rfl)
  · have hF0 := (if_neg c2).symm.trans hF0
    refine lv_iload_n hx hb dX7_remainder_4 rfl (lv_at hl 0 rfl) ?_
    refine lv_iload_n hx hb dX7_remainder_5 rfl (lv_at hl 1 rfl) ?_
    obtain ⟨u3, eu3, hF0⟩ := kk_bind hF0
    refine lv_irem hx hb dX7_remainder_6 (kk_nz_ok eu3) ?_
    refine lv_goto (tgt := 11) hx hb dX7_remainder_7 (by decide) ?_
    exact hJ1 (kk_rem i0 i1) hF0 _ _ _ hw (lv_sub hl [] rfl)
theorem ui_X6_set_X6 : ∀ w ∈ u_ws RX6 TX6 1, w ∈ wsX6_set := by decide +kernel
theorem m_X6_set_Cond_fieldLink_RX6_13_PerfectPew_Row_cells_I_ : Cond.fieldLink RX6 13 "PerfectPew$Row" "cells" "[I" ∈ wsX6_set := by decide +kernel
set_option maxRecDepth 100000 in
set_option maxHeartbeats 4000000 in
theorem c_X6_set (l : Launch) (G : va_G) (cI cJ : ClassId) (ad : Nat → Nat) (a0 a1 : Nat) (n_cells : Nat) (f_cells : Nat → Int32) (i1 : Int32) (i2 : Int32) (N : Nat) (x : (Nat → Int32)) (hF0 : F_X6_set N n_cells f_cells i1 i2 = some x) : kk_V l yX6_set wsX6_set 0 0 0 0 [.ref a0, .int i1, .int i2] G cI cJ ad [(a0, .inr (6, [.ref a1])), (a1, .inl (cI, n_cells, .inl f_cells))] [(a0, .inr (6, [.ref a1])), (a1, .inl (cI, n_cells, .inl x))] := by
  refine kk_ofV (cc := cX6_set) (maxL := 3) (by decide) rfl (Nat.le_of_ble_eq_true rfl) ?_
  intro p e s m below meth c A Q ls H locs hx hb hml hown hts hE hw hl hret
  have F : kk_at p m c cX6_set 3 s _ wsX6_set RX6 G cI cJ ad A := ⟨⟨hx, hb, hml, hown, hts⟩, hE⟩
  have hl : lv_has ls 3 [(0, .ref a0), (1, .int i1), (2, .int i2)] := hl
  unfold F_X6_set at hF0
  have hJ1 : ∀ (f_cells_1 : Nat → Int32), J_X6_set_20 N f_cells_1 = some x → ∀ (H : Heap) (locs : List Loc) (ls : Array Slot), kk_wd G A s.heap [(a0, .inr (6, [.ref a1])), (a1, .inl (cI, n_cells, .inl f_cells_1))] H locs → lv_has ls 3 [] → W p l e (kk_rm 0 0 0 0) s m ([.ref a0, .int i1, .int i2] : List Value).toArray below meth c H locs 0 0 Q (F0 m 20 ls []) := by
    intro f_cells_1 hF0 H locs ls hw hl
    unfold J_X6_set_20 at hF0
    have hy := Option.some.inj hF0
    subst hy
    exact hret dX6_set_20 (by decide) (by decide) hw
  refine lv_iload_n hx hb dX6_set_0 rfl (lv_at hl 1 rfl) ?_
  refine lv_if_lt (tgt := 20) hx hb dX6_set_1 (by decide) (fun c2 => ?_) (fun c2 => ?_)
  · have hF0 := (if_pos c2).symm.trans hF0
    exact hJ1 f_cells hF0 _ _ _ hw (lv_sub hl [] rfl)
  · have hF0 := (if_neg c2).symm.trans hF0
    refine lv_iload_n hx hb dX6_set_4 rfl (lv_at hl 1 rfl) ?_
    refine lv_aload_n hx hb dX6_set_5 rfl (lv_at hl 0 rfl) ?_
    refine kk_get (T := TX6) F hw ui_X6_set_X6 0 rfl rfl 0 (by decide) m_X6_set_Cond_fieldLink_RX6_13_PerfectPew_Row_cells_I_ rfl dX6_set_6 ?_
    refine kk_alenI F hw 1 rfl dX6_set_9 ?_
    refine lv_icmp_ge (tgt := 20) hx hb dX6_set_10 (by decide) (fun c3 => ?_) (fun c3 => ?_)
    · have hF0 := (if_pos c3).symm.trans hF0
      exact hJ1 f_cells hF0 _ _ _ hw (lv_sub hl [] rfl)
    · have hF0 := (if_neg c3).symm.trans hF0
      refine lv_aload_n hx hb dX6_set_13 rfl (lv_at hl 0 rfl) ?_
      refine kk_get (T := TX6) F hw ui_X6_set_X6 0 rfl rfl 0 (by decide) m_X6_set_Cond_fieldLink_RX6_13_PerfectPew_Row_cells_I_ rfl dX6_set_14 ?_
      refine lv_iload_n hx hb dX6_set_17 rfl (lv_at hl 1 rfl) ?_
      refine lv_iload_n hx hb dX6_set_18 rfl (lv_at hl 2 rfl) ?_
      obtain ⟨w4, ew4, hF0⟩ := kk_bind hF0
      refine kk_iast F hw 1 rfl ew4 dX6_set_19 (fun H locs hw => ?_)
      have hw : kk_wd G A s.heap [(a0, .inr (6, [.ref a1])), (a1, .inl (cI, n_cells, .inl w4))] H locs := hw
      exact hJ1 w4 hF0 _ _ _ hw (lv_sub hl [] rfl)
theorem ui_X2_assign_X2 : ∀ w ∈ u_ws RX2 TX2 5, w ∈ wsX2_assign := by decide +kernel
theorem m_X2_assign_Cond_fieldLink_RX2_12_PerfectPew_Groups_groups_LPerfectPew_Row_ : Cond.fieldLink RX2 12 "PerfectPew$Groups" "groups" "LPerfectPew$Row;" ∈ wsX2_assign := by decide +kernel
theorem m_X2_assign_Cond_fieldLink_RX2_18_PerfectPew_Groups_begins_LPerfectPew_Row_ : Cond.fieldLink RX2 18 "PerfectPew$Groups" "begins" "LPerfectPew$Row;" ∈ wsX2_assign := by decide +kernel
theorem m_X2_assign_Cond_initialized_yX6_set_cls : Cond.initialized yX6_set.cls ∈ wsX2_assign := by decide +kernel
theorem m_X2_assign_Cond_instanceMethod_yX6_set : Cond.instanceMethod yX6_set ∈ wsX2_assign := by decide +kernel
theorem m_X2_assign_Cond_selects_RX6_yX6_set_yX6_set : Cond.selects RX6 yX6_set yX6_set ∈ wsX2_assign := by decide +kernel
theorem m_X2_assign_Cond_initialized_yX6_get_cls : Cond.initialized yX6_get.cls ∈ wsX2_assign := by decide +kernel
theorem m_X2_assign_Cond_instanceMethod_yX6_get : Cond.instanceMethod yX6_get ∈ wsX2_assign := by decide +kernel
theorem m_X2_assign_Cond_selects_RX6_yX6_get_yX6_get : Cond.selects RX6 yX6_get yX6_get ∈ wsX2_assign := by decide +kernel
set_option maxRecDepth 100000 in
set_option maxHeartbeats 4000000 in
theorem c_X2_assign (l : Launch) (G : va_G) (cI cJ : ClassId) (ad : Nat → Nat) (a0 a1 a2 a3 a4 a5 : Nat) (x_thingCount : Int32) (x_groupCount : Int32) (n_groups : Nat) (f_groups : Nat → Int32) (n_begins : Nat) (f_begins : Nat → Int32) (i1 : Int32) (i2 : Int32) (N : Nat) (x : ((Nat → Int32) × (Nat → Int32))) (hF0 : F_X2_assign N n_groups f_groups n_begins f_begins i1 i2 = some x) : kk_V l yX2_assign wsX2_assign 1 0 0 22 [.ref a0, .int i1, .int i2] G cI cJ ad [(a0, .inr (2, [.ref a1, .ref a3, .ref a5, .int x_thingCount, .int x_groupCount])), (a1, .inr (6, [.ref a2])), (a2, .inl (cI, n_groups, .inl f_groups)), (a3, .inr (6, [.ref a4])), (a4, .inl (cI, n_begins, .inl f_begins))] [(a0, .inr (2, [.ref a1, .ref a3, .ref a5, .int x_thingCount, .int x_groupCount])), (a1, .inr (6, [.ref a2])), (a2, .inl (cI, n_groups, .inl x.1)), (a3, .inr (6, [.ref a4])), (a4, .inl (cI, n_begins, .inl x.2))] := by
  refine kk_ofV (cc := cX2_assign) (maxL := 3) (by decide) rfl (Nat.le_of_ble_eq_true rfl) ?_
  intro p e s m below meth c A Q ls H locs hx hb hml hown hts hE hw hl hret
  have F : kk_at p m c cX2_assign 3 s _ wsX2_assign RX2 G cI cJ ad A := ⟨⟨hx, hb, hml, hown, hts⟩, hE⟩
  have hl : lv_has ls 3 [(0, .ref a0), (1, .int i1), (2, .int i2)] := hl
  unfold F_X2_assign at hF0
  refine lv_aload_n hx hb dX2_assign_0 rfl (lv_at hl 0 rfl) ?_
  refine kk_get (T := TX2) F hw ui_X2_assign_X2 0 rfl rfl 0 (by decide) m_X2_assign_Cond_fieldLink_RX2_12_PerfectPew_Groups_groups_LPerfectPew_Row_ rfl dX2_assign_1 ?_
  refine lv_iload_n hx hb dX2_assign_4 rfl (lv_at hl 1 rfl) ?_
  refine lv_iload_n hx hb dX2_assign_5 rfl (lv_at hl 2 rfl) ?_
  obtain ⟨v1, ev1, hF0⟩ := kk_bind hF0
  refine kk_callV 0 0 hw (kk_runN (As := [.int i1, .int i2]) (rest := []) F hw hl.1 (c_X6_set l G cI cJ ad a1 a2 n_groups f_groups i1 i2 N v1 ev1 H.size) gX2_assign_X6_set_n34 rfl nl_35 m_X2_assign_Cond_initialized_yX6_set_cls m_X2_assign_Cond_instanceMethod_yX6_set m_X2_assign_Cond_selects_RX6_yX6_set_yX6_set md_X6_set ⟨Nat.le_of_ble_eq_true rfl, Nat.le_of_ble_eq_true rfl⟩ ⟨Nat.le_of_ble_eq_true rfl, Nat.le_of_ble_eq_true rfl⟩ 1 6 rfl rfl rfl rfl (Nat.le_of_ble_eq_true rfl) dX2_assign_6) ⟨rfl, rfl⟩ [1, 2] (by decide) rfl rfl (fun H locs hw => ?_)
  have hw : kk_wd G A s.heap [(a0, .inr (2, [.ref a1, .ref a3, .ref a5, .int x_thingCount, .int x_groupCount])), (a1, .inr (6, [.ref a2])), (a2, .inl (cI, n_groups, .inl v1)), (a3, .inr (6, [.ref a4])), (a4, .inl (cI, n_begins, .inl f_begins))] H locs := hw
  refine lv_aload_n hx hb dX2_assign_9 rfl (lv_at hl 0 rfl) ?_
  refine kk_get (T := TX2) F hw ui_X2_assign_X2 0 rfl rfl 1 (by decide) m_X2_assign_Cond_fieldLink_RX2_18_PerfectPew_Groups_begins_LPerfectPew_Row_ rfl dX2_assign_10 ?_
  refine lv_iload_n hx hb dX2_assign_13 rfl (lv_at hl 2 rfl) ?_
  refine lv_aload_n hx hb dX2_assign_14 rfl (lv_at hl 0 rfl) ?_
  refine kk_get (T := TX2) F hw ui_X2_assign_X2 0 rfl rfl 1 (by decide) m_X2_assign_Cond_fieldLink_RX2_18_PerfectPew_Groups_begins_LPerfectPew_Row_ rfl dX2_assign_15 ?_
  refine lv_iload_n hx hb dX2_assign_18 rfl (lv_at hl 2 rfl) ?_
  obtain ⟨v2, ev2, hF0⟩ := kk_bind hF0
  refine kk_callI 0 0 hw (kk_runN (As := [.int i2]) (rest := [.int i2, .ref a3]) F hw hl.1 (c_X6_get l G cI cJ ad a3 a4 n_begins f_begins i2 N v2 ev2 H.size) gX2_assign_X6_get_n38 rfl nl_36 m_X2_assign_Cond_initialized_yX6_get_cls m_X2_assign_Cond_instanceMethod_yX6_get m_X2_assign_Cond_selects_RX6_yX6_get_yX6_get md_X6_get ⟨Nat.le_of_ble_eq_true rfl, Nat.le_of_ble_eq_true rfl⟩ ⟨Nat.le_of_ble_eq_true rfl, Nat.le_of_ble_eq_true rfl⟩ 3 6 rfl rfl rfl rfl (Nat.le_of_ble_eq_true rfl) dX2_assign_19) ⟨rfl, rfl⟩ [3, 4] (by decide) rfl rfl (fun H locs hw => ?_)
  have hw : kk_wd G A s.heap [(a0, .inr (2, [.ref a1, .ref a3, .ref a5, .int x_thingCount, .int x_groupCount])), (a1, .inr (6, [.ref a2])), (a2, .inl (cI, n_groups, .inl v1)), (a3, .inr (6, [.ref a4])), (a4, .inl (cI, n_begins, .inl f_begins))] H locs := hw
  refine lv_iconst (v := 1) hx hb dX2_assign_22 (by decide) ?_
  refine lv_iadd hx hb dX2_assign_23 ?_
  obtain ⟨v3, ev3, hF0⟩ := kk_bind hF0
  refine kk_callV 0 0 hw (kk_runN (As := [.int i2, .int (v2 + 1)]) (rest := []) F hw hl.1 (c_X6_set l G cI cJ ad a3 a4 n_begins f_begins i2 (v2 + 1) N v3 ev3 H.size) gX2_assign_X6_set_n34 rfl nl_35 m_X2_assign_Cond_initialized_yX6_set_cls m_X2_assign_Cond_instanceMethod_yX6_set m_X2_assign_Cond_selects_RX6_yX6_set_yX6_set md_X6_set ⟨Nat.le_of_ble_eq_true rfl, Nat.le_of_ble_eq_true rfl⟩ ⟨Nat.le_of_ble_eq_true rfl, Nat.le_of_ble_eq_true rfl⟩ 3 6 rfl rfl rfl rfl (Nat.le_of_ble_eq_true rfl) dX2_assign_24) ⟨rfl, rfl⟩ [3, 4] (by decide) rfl rfl (fun H locs hw => ?_)
  have hw : kk_wd G A s.heap [(a0, .inr (2, [.ref a1, .ref a3, .ref a5, .int x_thingCount, .int x_groupCount])), (a1, .inr (6, [.ref a2])), (a2, .inl (cI, n_groups, .inl v1)), (a3, .inr (6, [.ref a4])), (a4, .inl (cI, n_begins, .inl v3))] H locs := hw
  have hy := Option.some.inj hF0
  subst hy
  exact hret dX2_assign_27 (by decide) (by decide) hw
theorem ui_X2_arrange_X2 : ∀ w ∈ u_ws RX2 TX2 5, w ∈ wsX2_arrange := by decide +kernel
theorem m_X2_arrange_Cond_fieldLink_RX2_24_PerfectPew_Groups_thingCount_I_ : Cond.fieldLink RX2 24 "PerfectPew$Groups" "thingCount" "I" ∈ wsX2_arrange := by decide +kernel
theorem m_X2_arrange_Cond_fieldLink_RX2_12_PerfectPew_Groups_groups_LPerfectPew_Row_ : Cond.fieldLink RX2 12 "PerfectPew$Groups" "groups" "LPerfectPew$Row;" ∈ wsX2_arrange := by decide +kernel
theorem m_X2_arrange_Cond_fieldLink_RX2_18_PerfectPew_Groups_begins_LPerfectPew_Row_ : Cond.fieldLink RX2 18 "PerfectPew$Groups" "begins" "LPerfectPew$Row;" ∈ wsX2_arrange := by decide +kernel
theorem m_X2_arrange_Cond_fieldLink_RX2_21_PerfectPew_Groups_members_LPerfectPew_Row_ : Cond.fieldLink RX2 21 "PerfectPew$Groups" "members" "LPerfectPew$Row;" ∈ wsX2_arrange := by decide +kernel
theorem m_X2_arrange_Cond_initialized_yX6_set_cls : Cond.initialized yX6_set.cls ∈ wsX2_arrange := by decide +kernel
theorem m_X2_arrange_Cond_instanceMethod_yX6_set : Cond.instanceMethod yX6_set ∈ wsX2_arrange := by decide +kernel
theorem m_X2_arrange_Cond_selects_RX6_yX6_set_yX6_set : Cond.selects RX6 yX6_set yX6_set ∈ wsX2_arrange := by decide +kernel
theorem m_X2_arrange_Cond_initialized_yX6_get_cls : Cond.initialized yX6_get.cls ∈ wsX2_arrange := by decide +kernel
theorem m_X2_arrange_Cond_instanceMethod_yX6_get : Cond.instanceMethod yX6_get ∈ wsX2_arrange := by decide +kernel
theorem m_X2_arrange_Cond_selects_RX6_yX6_get_yX6_get : Cond.selects RX6 yX6_get yX6_get ∈ wsX2_arrange := by decide +kernel
theorem m_X2_arrange_Cond_fieldLink_RX2_28_PerfectPew_Groups_groupCount_I_ : Cond.fieldLink RX2 28 "PerfectPew$Groups" "groupCount" "I" ∈ wsX2_arrange := by decide +kernel
set_option maxRecDepth 100000 in
set_option maxHeartbeats 4000000 in
theorem c_X2_arrange (l : Launch) (G : va_G) (cI cJ : ClassId) (ad : Nat → Nat) (a0 a1 a2 a3 a4 a5 a6 : Nat) (x_thingCount : Int32) (x_groupCount : Int32) (n_groups : Nat) (f_groups : Nat → Int32) (n_begins : Nat) (f_begins : Nat → Int32) (n_members : Nat) (f_members : Nat → Int32) (N : Nat) (x : ((Nat → Int32) × (Nat → Int32))) (hF0 : F_X2_arrange N x_thingCount x_groupCount n_groups f_groups n_begins f_begins n_members f_members = some x) : kk_V l yX2_arrange wsX2_arrange 1 0 0 22 [.ref a0] G cI cJ ad [(a0, .inr (2, [.ref a1, .ref a3, .ref a5, .int x_thingCount, .int x_groupCount])), (a1, .inr (6, [.ref a2])), (a2, .inl (cI, n_groups, .inl f_groups)), (a3, .inr (6, [.ref a4])), (a4, .inl (cI, n_begins, .inl f_begins)), (a5, .inr (6, [.ref a6])), (a6, .inl (cI, n_members, .inl f_members))] [(a0, .inr (2, [.ref a1, .ref a3, .ref a5, .int x_thingCount, .int x_groupCount])), (a1, .inr (6, [.ref a2])), (a2, .inl (cI, n_groups, .inl f_groups)), (a3, .inr (6, [.ref a4])), (a4, .inl (cI, n_begins, .inl x.1)), (a5, .inr (6, [.ref a6])), (a6, .inl (cI, n_members, .inl x.2))] := by
  refine kk_ofV (cc := cX2_arrange) (maxL := 5) (by decide) rfl (Nat.le_of_ble_eq_true rfl) ?_
  intro p e s m below meth c A Q ls H locs hx hb hml hown hts hE hw hl hret
  have F : kk_at p m c cX2_arrange 5 s _ wsX2_arrange RX2 G cI cJ ad A := ⟨⟨hx, hb, hml, hown, hts⟩, hE⟩
  have hl : lv_has ls 5 [(0, .ref a0)] := hl
  unfold F_X2_arrange at hF0
  have hJ1 : ∀ (f_begins_1 : Nat → Int32) (f_members_1 : Nat → Int32), J_X2_arrange_96 N f_begins_1 f_members_1 = some x → ∀ (H : Heap) (locs : List Loc) (ls : Array Slot), kk_wd G A s.heap [(a0, .inr (2, [.ref a1, .ref a3, .ref a5, .int x_thingCount, .int x_groupCount])), (a1, .inr (6, [.ref a2])), (a2, .inl (cI, n_groups, .inl f_groups)), (a3, .inr (6, [.ref a4])), (a4, .inl (cI, n_begins, .inl f_begins_1)), (a5, .inr (6, [.ref a6])), (a6, .inl (cI, n_members, .inl f_members_1))] H locs → lv_has ls 5 [] → W p l e (kk_rm 1 0 0 22) s m ([.ref a0] : List Value).toArray below meth c H locs 0 0 Q (F0 m 96 ls []) := by
    intro f_begins_1 f_members_1 hF0 H locs ls hw hl
    unfold J_X2_arrange_96 at hF0
    have hy := Option.some.inj hF0
    subst hy
    exact hret dX2_arrange_96 (by decide) (by decide) hw
  have hJ2 : ∀ (f_begins_2 : Nat → Int32) (f_members_2 : Nat → Int32), J_X2_arrange_38 N n_groups n_begins n_members x_thingCount f_groups f_begins_2 f_members_2 = some x → ∀ (H : Heap) (locs : List Loc) (ls : Array Slot), kk_wd G A s.heap [(a0, .inr (2, [.ref a1, .ref a3, .ref a5, .int x_thingCount, .int x_groupCount])), (a1, .inr (6, [.ref a2])), (a2, .inl (cI, n_groups, .inl f_groups)), (a3, .inr (6, [.ref a4])), (a4, .inl (cI, n_begins, .inl f_begins_2)), (a5, .inr (6, [.ref a6])), (a6, .inl (cI, n_members, .inl f_members_2))] H locs → lv_has ls 5 [(0, .ref a0)] → W p l e (kk_rm 1 0 0 22) s m ([.ref a0] : List Value).toArray below meth c H locs 0 0 Q (F0 m 38 ls []) := by
    intro f_begins_2 f_members_2 hF0 H locs ls hw hl
    unfold J_X2_arrange_38 at hF0
    refine lv_aload_n hx hb dX2_arrange_38 rfl (lv_at hl 0 rfl) ?_
    refine kk_get (T := TX2) F hw ui_X2_arrange_X2 0 rfl rfl 3 (by decide) m_X2_arrange_Cond_fieldLink_RX2_24_PerfectPew_Groups_thingCount_I_ rfl dX2_arrange_39 ?_
    refine lv_iconst (v := 1) hx hb dX2_arrange_42 (by decide) ?_
    refine lv_isub hx hb dX2_arrange_43 ?_
    refine lv_istore_n (lv' := [(2, .int (x_thingCount - 1)), (0, .ref a0)]) hx hb dX2_arrange_44 rfl hl (by decide) rfl (fun ls hl => ?_)
    obtain ⟨z3, hz4, hF0⟩ := kk_bind hF0
    have hL4 : ∀ (n4 : Nat) (f_begins_4 : Nat → Int32) (f_members_4 : Nat → Int32) (i2_4 : Int32), kk_iter (fun (σ : ((Nat → Int32) × (Nat → Int32) × Int32)) => L_X2_arrange_45 N n_groups n_begins n_members f_groups σ.1 σ.2.1 σ.2.2) n4 (f_begins_4, f_members_4, i2_4) = some z3 → ∀ (H : Heap) (locs : List Loc) (ls : Array Slot), kk_wd G A s.heap [(a0, .inr (2, [.ref a1, .ref a3, .ref a5, .int x_thingCount, .int x_groupCount])), (a1, .inr (6, [.ref a2])), (a2, .inl (cI, n_groups, .inl f_groups)), (a3, .inr (6, [.ref a4])), (a4, .inl (cI, n_begins, .inl f_begins_4)), (a5, .inr (6, [.ref a6])), (a6, .inl (cI, n_members, .inl f_members_4))] H locs → lv_has ls 5 [(0, .ref a0), (2, .int i2_4)] → W p l e (kk_rm 1 0 0 22) s m ([.ref a0] : List Value).toArray below meth c H locs 0 0 Q (F0 m 45 ls []) := by
      intro n4
      induction n4 with
      | zero => intro f_begins_4 f_members_4 i2_4 h; exact kk_iter0 h
      | succ n4 ih4 =>
        intro f_begins_4 f_members_4 i2_4 hq H locs ls hw hl
        obtain ⟨y4, hF1, hI1⟩ := kk_iterS hq
        have hF1 : L_X2_arrange_45 N n_groups n_begins n_members f_groups f_begins_4 f_members_4 i2_4 = some y4 := hF1
        unfold L_X2_arrange_45 at hF1
        refine lv_iload_n hx hb dX2_arrange_45 rfl (lv_at hl 1 rfl) ?_
        refine lv_if_lt (tgt := 96) hx hb dX2_arrange_46 (by decide) (fun c5 => ?_) (fun c5 => ?_)
        · have hF1 := (if_pos c5).symm.trans hF1
          have hy := Option.some.inj hF1
          subst hy
          have hz := Option.some.inj hI1
          subst hz
          exact hJ1 f_begins_4 f_members_4 hF0 _ _ _ hw (lv_sub hl [] rfl)
        · have hF1 := (if_neg c5).symm.trans hF1
          refine lv_aload_n hx hb dX2_arrange_49 rfl (lv_at hl 0 rfl) ?_
          refine kk_get (T := TX2) F hw ui_X2_arrange_X2 0 rfl rfl 0 (by decide) m_X2_arrange_Cond_fieldLink_RX2_12_PerfectPew_Groups_groups_LPerfectPew_Row_ rfl dX2_arrange_50 ?_
          refine lv_iload_n hx hb dX2_arrange_53 rfl (lv_at hl 1 rfl) ?_
          obtain ⟨v6, ev6, hF1⟩ := kk_bind hF1
          refine kk_callI 0 0 hw (kk_runN (As := [.int i2_4]) (rest := []) F hw hl.1 (c_X6_get l G cI cJ ad a1 a2 n_groups f_groups i2_4 N v6 ev6 H.size) gX2_arrange_X6_get_n38 rfl nl_36 m_X2_arrange_Cond_initialized_yX6_get_cls m_X2_arrange_Cond_instanceMethod_yX6_get m_X2_arrange_Cond_selects_RX6_yX6_get_yX6_get md_X6_get ⟨Nat.le_of_ble_eq_true rfl, Nat.le_of_ble_eq_true rfl⟩ ⟨Nat.le_of_ble_eq_true rfl, Nat.le_of_ble_eq_true rfl⟩ 1 6 rfl rfl rfl rfl (Nat.le_of_ble_eq_true rfl) dX2_arrange_54) ⟨rfl, rfl⟩ [1, 2] (by decide) rfl rfl (fun H locs hw => ?_)
          have hw : kk_wd G A s.heap [(a0, .inr (2, [.ref a1, .ref a3, .ref a5, .int x_thingCount, .int x_groupCount])), (a1, .inr (6, [.ref a2])), (a2, .inl (cI, n_groups, .inl f_groups)), (a3, .inr (6, [.ref a4])), (a4, .inl (cI, n_begins, .inl f_begins_4)), (a5, .inr (6, [.ref a6])), (a6, .inl (cI, n_members, .inl f_members_4))] H locs := hw
          refine lv_istore_n (lv' := [(3, .int v6), (0, .ref a0), (2, .int i2_4)]) hx hb dX2_arrange_57 rfl hl (by decide) rfl (fun ls hl => ?_)
          refine lv_aload_n hx hb dX2_arrange_58 rfl (lv_at hl 1 rfl) ?_
          refine kk_get (T := TX2) F hw ui_X2_arrange_X2 0 rfl rfl 1 (by decide) m_X2_arrange_Cond_fieldLink_RX2_18_PerfectPew_Groups_begins_LPerfectPew_Row_ rfl dX2_arrange_59 ?_
          refine lv_iload_n hx hb dX2_arrange_62 rfl (lv_at hl 0 rfl) ?_
          obtain ⟨v7, ev7, hF1⟩ := kk_bind hF1
          refine kk_callI 0 0 hw (kk_runN (As := [.int v6]) (rest := []) F hw hl.1 (c_X6_get l G cI cJ ad a3 a4 n_begins f_begins_4 v6 N v7 ev7 H.size) gX2_arrange_X6_get_n38 rfl nl_36 m_X2_arrange_Cond_initialized_yX6_get_cls m_X2_arrange_Cond_instanceMethod_yX6_get m_X2_arrange_Cond_selects_RX6_yX6_get_yX6_get md_X6_get ⟨Nat.le_of_ble_eq_true rfl, Nat.le_of_ble_eq_true rfl⟩ ⟨Nat.le_of_ble_eq_true rfl, Nat.le_of_ble_eq_true rfl⟩ 3 6 rfl rfl rfl rfl (Nat.le_of_ble_eq_true rfl) dX2_arrange_63) ⟨rfl, rfl⟩ [3, 4] (by decide) rfl rfl (fun H locs hw => ?_)
          have hw : kk_wd G A s.heap [(a0, .inr (2, [.ref a1, .ref a3, .ref a5, .int x_thingCount, .int x_groupCount])), (a1, .inr (6, [.ref a2])), (a2, .inl (cI, n_groups, .inl f_groups)), (a3, .inr (6, [.ref a4])), (a4, .inl (cI, n_begins, .inl f_begins_4)), (a5, .inr (6, [.ref a6])), (a6, .inl (cI, n_members, .inl f_members_4))] H locs := hw
          refine lv_iconst (v := 1) hx hb dX2_arrange_66 (by decide) ?_
          refine lv_isub hx hb dX2_arrange_67 ?_
          refine lv_istore (lv' := [(4, .int (v7 - 1)), (3, .int v6), (0, .ref a0), (2, .int i2_4)]) hx hb dX2_arrange_68 hl (by decide) rfl (fun ls hl => ?_)
          refine lv_aload_n hx hb dX2_arrange_70 rfl (lv_at hl 2 rfl) ?_
          refine kk_get (T := TX2) F hw ui_X2_arrange_X2 0 rfl rfl 1 (by decide) m_X2_arrange_Cond_fieldLink_RX2_18_PerfectPew_Groups_begins_LPerfectPew_Row_ rfl dX2_arrange_71 ?_
          refine lv_iload_n hx hb dX2_arrange_74 rfl (lv_at hl 1 rfl) ?_
          refine lv_iload hx hb dX2_arrange_75 (lv_at hl 0 rfl) ?_
          obtain ⟨v8, ev8, hF1⟩ := kk_bind hF1
          refine kk_callV 0 0 hw (kk_runN (As := [.int v6, .int (v7 - 1)]) (rest := []) F hw hl.1 (c_X6_set l G cI cJ ad a3 a4 n_begins f_begins_4 v6 (v7 - 1) N v8 ev8 H.size) gX2_arrange_X6_set_n34 rfl nl_35 m_X2_arrange_Cond_initialized_yX6_set_cls m_X2_arrange_Cond_instanceMethod_yX6_set m_X2_arrange_Cond_selects_RX6_yX6_set_yX6_set md_X6_set ⟨Nat.le_of_ble_eq_true rfl, Nat.le_of_ble_eq_true rfl⟩ ⟨Nat.le_of_ble_eq_true rfl, Nat.le_of_ble_eq_true rfl⟩ 3 6 rfl rfl rfl rfl (Nat.le_of_ble_eq_true rfl) dX2_arrange_77) ⟨rfl, rfl⟩ [3, 4] (by decide) rfl rfl (fun H locs hw => ?_)
          have hw : kk_wd G A s.heap [(a0, .inr (2, [.ref a1, .ref a3, .ref a5, .int x_thingCount, .int x_groupCount])), (a1, .inr (6, [.ref a2])), (a2, .inl (cI, n_groups, .inl f_groups)), (a3, .inr (6, [.ref a4])), (a4, .inl (cI, n_begins, .inl v8)), (a5, .inr (6, [.ref a6])), (a6, .inl (cI, n_members, .inl f_members_4))] H locs := hw
          refine lv_aload_n hx hb dX2_arrange_80 rfl (lv_at hl 2 rfl) ?_
          refine kk_get (T := TX2) F hw ui_X2_arrange_X2 0 rfl rfl 2 (by decide) m_X2_arrange_Cond_fieldLink_RX2_21_PerfectPew_Groups_members_LPerfectPew_Row_ rfl dX2_arrange_81 ?_
          refine lv_iload hx hb dX2_arrange_84 (lv_at hl 0 rfl) ?_
          refine lv_iload_n hx hb dX2_arrange_86 rfl (lv_at hl 3 rfl) ?_
          obtain ⟨v9, ev9, hF1⟩ := kk_bind hF1
          refine kk_callV 0 0 hw (kk_runN (As := [.int (v7 - 1), .int i2_4]) (rest := []) F hw hl.1 (c_X6_set l G cI cJ ad a5 a6 n_members f_members_4 (v7 - 1) i2_4 N v9 ev9 H.size) gX2_arrange_X6_set_n34 rfl nl_35 m_X2_arrange_Cond_initialized_yX6_set_cls m_X2_arrange_Cond_instanceMethod_yX6_set m_X2_arrange_Cond_selects_RX6_yX6_set_yX6_set md_X6_set ⟨Nat.le_of_ble_eq_true rfl, Nat.le_of_ble_eq_true rfl⟩ ⟨Nat.le_of_ble_eq_true rfl, Nat.le_of_ble_eq_true rfl⟩ 5 6 rfl rfl rfl rfl (Nat.le_of_ble_eq_true rfl) dX2_arrange_87) ⟨rfl, rfl⟩ [5, 6] (by decide) rfl rfl (fun H locs hw => ?_)
          have hw : kk_wd G A s.heap [(a0, .inr (2, [.ref a1, .ref a3, .ref a5, .int x_thingCount, .int x_groupCount])), (a1, .inr (6, [.ref a2])), (a2, .inl (cI, n_groups, .inl f_groups)), (a3, .inr (6, [.ref a4])), (a4, .inl (cI, n_begins, .inl v8)), (a5, .inr (6, [.ref a6])), (a6, .inl (cI, n_members, .inl v9))] H locs := hw
          refine lv_iinc (v := (i2_4 + (-1))) (lv' := [(2, .int (i2_4 + (-1))), (4, .int (v7 - 1)), (3, .int v6), (0, .ref a0)]) hx hb dX2_arrange_90 hl (k := 3) rfl rfl (by decide) rfl (fun ls hl => ?_)
          refine lv_goto (tgt := 45) hx hb dX2_arrange_93 (by decide) ?_
          have hy := Option.some.inj hF1
          subst hy
          exact ih4 v8 v9 (i2_4 + (-1)) hI1 _ _ _ hw (lv_sub hl [3, 0] rfl)
    exact hL4 N f_begins_2 f_members_2 (x_thingCount - 1) hz4 _ _ _ hw (lv_sub hl [1, 0] rfl)
  refine lv_iconst (v := 0) hx hb dX2_arrange_0 (by decide) ?_
  refine lv_istore_n (lv' := [(1, .int 0), (0, .ref a0)]) hx hb dX2_arrange_1 rfl hl (by decide) rfl (fun ls hl => ?_)
  refine lv_iconst (v := 0) hx hb dX2_arrange_2 (by decide) ?_
  refine lv_istore_n (lv' := [(2, .int 0), (1, .int 0), (0, .ref a0)]) hx hb dX2_arrange_3 rfl hl (by decide) rfl (fun ls hl => ?_)
  obtain ⟨z10, hz11, hF0⟩ := kk_bind hF0
  have hL11 : ∀ (n11 : Nat) (f_begins_11 : Nat → Int32) (i1_11 : Int32) (i2_11 : Int32), kk_iter (fun (σ : ((Nat → Int32) × Int32 × Int32)) => L_X2_arrange_4 N n_begins x_groupCount σ.1 σ.2.1 σ.2.2) n11 (f_begins_11, i1_11, i2_11) = some z10 → ∀ (H : Heap) (locs : List Loc) (ls : Array Slot), kk_wd G A s.heap [(a0, .inr (2, [.ref a1, .ref a3, .ref a5, .int x_thingCount, .int x_groupCount])), (a1, .inr (6, [.ref a2])), (a2, .inl (cI, n_groups, .inl f_groups)), (a3, .inr (6, [.ref a4])), (a4, .inl (cI, n_begins, .inl f_begins_11)), (a5, .inr (6, [.ref a6])), (a6, .inl (cI, n_members, .inl f_members))] H locs → lv_has ls 5 [(0, .ref a0), (1, .int i1_11), (2, .int i2_11)] → W p l e (kk_rm 1 0 0 22) s m ([.ref a0] : List Value).toArray below meth c H locs 0 0 Q (F0 m 4 ls []) := by
    intro n11
    induction n11 with
    | zero => intro f_begins_11 i1_11 i2_11 h; exact kk_iter0 h
    | succ n11 ih11 =>
      intro f_begins_11 i1_11 i2_11 hq H locs ls hw hl
      obtain ⟨y11, hF1, hI1⟩ := kk_iterS hq
      have hF1 : L_X2_arrange_4 N n_begins x_groupCount f_begins_11 i1_11 i2_11 = some y11 := hF1
      unfold L_X2_arrange_4 at hF1
      refine lv_iload_n hx hb dX2_arrange_4 rfl (lv_at hl 2 rfl) ?_
      refine lv_aload_n hx hb dX2_arrange_5 rfl (lv_at hl 0 rfl) ?_
      refine kk_get (T := TX2) F hw ui_X2_arrange_X2 0 rfl rfl 4 (by decide) m_X2_arrange_Cond_fieldLink_RX2_28_PerfectPew_Groups_groupCount_I_ rfl dX2_arrange_6 ?_
      refine lv_icmp_gt (tgt := 38) hx hb dX2_arrange_9 (by decide) (fun c12 => ?_) (fun c12 => ?_)
      · have hF1 := (if_pos c12).symm.trans hF1
        have hy := Option.some.inj hF1
        subst hy
        have hz := Option.some.inj hI1
        subst hz
        exact hJ2 f_begins_11 f_members hF0 _ _ _ hw (lv_sub hl [0] rfl)
      · have hF1 := (if_neg c12).symm.trans hF1
        refine lv_iload_n hx hb dX2_arrange_12 rfl (lv_at hl 1 rfl) ?_
        refine lv_aload_n hx hb dX2_arrange_13 rfl (lv_at hl 0 rfl) ?_
        refine kk_get (T := TX2) F hw ui_X2_arrange_X2 0 rfl rfl 1 (by decide) m_X2_arrange_Cond_fieldLink_RX2_18_PerfectPew_Groups_begins_LPerfectPew_Row_ rfl dX2_arrange_14 ?_
        refine lv_iload_n hx hb dX2_arrange_17 rfl (lv_at hl 2 rfl) ?_
        obtain ⟨v13, ev13, hF1⟩ := kk_bind hF1
        refine kk_callI 0 0 hw (kk_runN (As := [.int i2_11]) (rest := [.int i1_11]) F hw hl.1 (c_X6_get l G cI cJ ad a3 a4 n_begins f_begins_11 i2_11 N v13 ev13 H.size) gX2_arrange_X6_get_n38 rfl nl_36 m_X2_arrange_Cond_initialized_yX6_get_cls m_X2_arrange_Cond_instanceMethod_yX6_get m_X2_arrange_Cond_selects_RX6_yX6_get_yX6_get md_X6_get ⟨Nat.le_of_ble_eq_true rfl, Nat.le_of_ble_eq_true rfl⟩ ⟨Nat.le_of_ble_eq_true rfl, Nat.le_of_ble_eq_true rfl⟩ 3 6 rfl rfl rfl rfl (Nat.le_of_ble_eq_true rfl) dX2_arrange_18) ⟨rfl, rfl⟩ [3, 4] (by decide) rfl rfl (fun H locs hw => ?_)
        have hw : kk_wd G A s.heap [(a0, .inr (2, [.ref a1, .ref a3, .ref a5, .int x_thingCount, .int x_groupCount])), (a1, .inr (6, [.ref a2])), (a2, .inl (cI, n_groups, .inl f_groups)), (a3, .inr (6, [.ref a4])), (a4, .inl (cI, n_begins, .inl f_begins_11)), (a5, .inr (6, [.ref a6])), (a6, .inl (cI, n_members, .inl f_members))] H locs := hw
        refine lv_iadd hx hb dX2_arrange_21 ?_
        refine lv_istore_n (lv' := [(1, .int (i1_11 + v13)), (0, .ref a0), (2, .int i2_11)]) hx hb dX2_arrange_22 rfl hl (by decide) rfl (fun ls hl => ?_)
        refine lv_aload_n hx hb dX2_arrange_23 rfl (lv_at hl 1 rfl) ?_
        refine kk_get (T := TX2) F hw ui_X2_arrange_X2 0 rfl rfl 1 (by decide) m_X2_arrange_Cond_fieldLink_RX2_18_PerfectPew_Groups_begins_LPerfectPew_Row_ rfl dX2_arrange_24 ?_
        refine lv_iload_n hx hb dX2_arrange_27 rfl (lv_at hl 2 rfl) ?_
        refine lv_iload_n hx hb dX2_arrange_28 rfl (lv_at hl 0 rfl) ?_
        obtain ⟨v14, ev14, hF1⟩ := kk_bind hF1
        refine kk_callV 0 0 hw (kk_runN (As := [.int i2_11, .int (i1_11 + v13)]) (rest := []) F hw hl.1 (c_X6_set l G cI cJ ad a3 a4 n_begins f_begins_11 i2_11 (i1_11 + v13) N v14 ev14 H.size) gX2_arrange_X6_set_n34 rfl nl_35 m_X2_arrange_Cond_initialized_yX6_set_cls m_X2_arrange_Cond_instanceMethod_yX6_set m_X2_arrange_Cond_selects_RX6_yX6_set_yX6_set md_X6_set ⟨Nat.le_of_ble_eq_true rfl, Nat.le_of_ble_eq_true rfl⟩ ⟨Nat.le_of_ble_eq_true rfl, Nat.le_of_ble_eq_true rfl⟩ 3 6 rfl rfl rfl rfl (Nat.le_of_ble_eq_true rfl) dX2_arrange_29) ⟨rfl, rfl⟩ [3, 4] (by decide) rfl rfl (fun H locs hw => ?_)
        have hw : kk_wd G A s.heap [(a0, .inr (2, [.ref a1, .ref a3, .ref a5, .int x_thingCount, .int x_groupCount])), (a1, .inr (6, [.ref a2])), (a2, .inl (cI, n_groups, .inl f_groups)), (a3, .inr (6, [.ref a4])), (a4, .inl (cI, n_begins, .inl v14)), (a5, .inr (6, [.ref a6])), (a6, .inl (cI, n_members, .inl f_members))] H locs := hw
        refine lv_iinc (v := (i2_11 + 1)) (lv' := [(2, .int (i2_11 + 1)), (1, .int (i1_11 + v13)), (0, .ref a0)]) hx hb dX2_arrange_32 hl (k := 2) rfl rfl (by decide) rfl (fun ls hl => ?_)
        refine lv_goto (tgt := 4) hx hb dX2_arrange_35 (by decide) ?_
        have hy := Option.some.inj hF1
        subst hy
        exact ih11 v14 (i1_11 + v13) (i2_11 + 1) hI1 _ _ _ hw (lv_sub hl [2, 1, 0] rfl)
  exact hL11 N f_begins 0 0 hz11 _ _ _ hw (lv_sub hl [2, 1, 0] rfl)
theorem ui_X2_endOf_X2 : ∀ w ∈ u_ws RX2 TX2 5, w ∈ wsX2_endOf := by decide +kernel
theorem m_X2_endOf_Cond_fieldLink_RX2_18_PerfectPew_Groups_begins_LPerfectPew_Row_ : Cond.fieldLink RX2 18 "PerfectPew$Groups" "begins" "LPerfectPew$Row;" ∈ wsX2_endOf := by decide +kernel
theorem m_X2_endOf_Cond_initialized_yX6_get_cls : Cond.initialized yX6_get.cls ∈ wsX2_endOf := by decide +kernel
theorem m_X2_endOf_Cond_instanceMethod_yX6_get : Cond.instanceMethod yX6_get ∈ wsX2_endOf := by decide +kernel
theorem m_X2_endOf_Cond_selects_RX6_yX6_get_yX6_get : Cond.selects RX6 yX6_get yX6_get ∈ wsX2_endOf := by decide +kernel
set_option maxRecDepth 100000 in
set_option maxHeartbeats 4000000 in
theorem c_X2_endOf (l : Launch) (G : va_G) (cI cJ : ClassId) (ad : Nat → Nat) (a0 a1 a3 a4 a5 : Nat) (x_thingCount : Int32) (x_groupCount : Int32) (n_begins : Nat) (f_begins : Nat → Int32) (i1 : Int32) (N : Nat) (x : Int32) (hF0 : F_X2_endOf N n_begins f_begins i1 = some x) : kk_I l yX2_endOf wsX2_endOf 1 0 0 21 [.ref a0, .int i1] G cI cJ ad [(a0, .inr (2, [.ref a1, .ref a3, .ref a5, .int x_thingCount, .int x_groupCount])), (a3, .inr (6, [.ref a4])), (a4, .inl (cI, n_begins, .inl f_begins))] x [(a0, .inr (2, [.ref a1, .ref a3, .ref a5, .int x_thingCount, .int x_groupCount])), (a3, .inr (6, [.ref a4])), (a4, .inl (cI, n_begins, .inl f_begins))] := by
  refine kk_ofI (cc := cX2_endOf) (maxL := 2) (by decide) rfl (Nat.le_of_ble_eq_true rfl) ?_
  intro p e s m below meth c A Q ls H locs hx hb hml hown hts hE hw hl hret
  have F : kk_at p m c cX2_endOf 2 s _ wsX2_endOf RX2 G cI cJ ad A := ⟨⟨hx, hb, hml, hown, hts⟩, hE⟩
  have hl : lv_has ls 2 [(0, .ref a0), (1, .int i1)] := hl
  unfold F_X2_endOf at hF0
  refine lv_aload_n hx hb dX2_endOf_0 rfl (lv_at hl 0 rfl) ?_
  refine kk_get (T := TX2) F hw ui_X2_endOf_X2 0 rfl rfl 1 (by decide) m_X2_endOf_Cond_fieldLink_RX2_18_PerfectPew_Groups_begins_LPerfectPew_Row_ rfl dX2_endOf_1 ?_
  refine lv_iload_n hx hb dX2_endOf_4 rfl (lv_at hl 1 rfl) ?_
  refine lv_iconst (v := 1) hx hb dX2_endOf_5 (by decide) ?_
  refine lv_iadd hx hb dX2_endOf_6 ?_
  obtain ⟨v1, ev1, hF0⟩ := kk_bind hF0
  refine kk_callI 0 0 hw (kk_runN (As := [.int (i1 + 1)]) (rest := []) F hw hl.1 (c_X6_get l G cI cJ ad a3 a4 n_begins f_begins (i1 + 1) N v1 ev1 H.size) gX2_endOf_X6_get_n38 rfl nl_36 m_X2_endOf_Cond_initialized_yX6_get_cls m_X2_endOf_Cond_instanceMethod_yX6_get m_X2_endOf_Cond_selects_RX6_yX6_get_yX6_get md_X6_get ⟨Nat.le_of_ble_eq_true rfl, Nat.le_of_ble_eq_true rfl⟩ ⟨Nat.le_of_ble_eq_true rfl, Nat.le_of_ble_eq_true rfl⟩ 1 6 rfl rfl rfl rfl (Nat.le_of_ble_eq_true rfl) dX2_endOf_7) ⟨rfl, rfl⟩ [1, 2] (by decide) rfl rfl (fun H locs hw => ?_)
  have hw : kk_wd G A s.heap [(a0, .inr (2, [.ref a1, .ref a3, .ref a5, .int x_thingCount, .int x_groupCount])), (a3, .inr (6, [.ref a4])), (a4, .inl (cI, n_begins, .inl f_begins))] H locs := hw
  have hy := Option.some.inj hF0
  subst hy
  exact hret dX2_endOf_10 (by decide) (by decide) hw
theorem ui_X2_beginOf_X2 : ∀ w ∈ u_ws RX2 TX2 5, w ∈ wsX2_beginOf := by decide +kernel
theorem m_X2_beginOf_Cond_fieldLink_RX2_18_PerfectPew_Groups_begins_LPerfectPew_Row_ : Cond.fieldLink RX2 18 "PerfectPew$Groups" "begins" "LPerfectPew$Row;" ∈ wsX2_beginOf := by decide +kernel
theorem m_X2_beginOf_Cond_initialized_yX6_get_cls : Cond.initialized yX6_get.cls ∈ wsX2_beginOf := by decide +kernel
theorem m_X2_beginOf_Cond_instanceMethod_yX6_get : Cond.instanceMethod yX6_get ∈ wsX2_beginOf := by decide +kernel
theorem m_X2_beginOf_Cond_selects_RX6_yX6_get_yX6_get : Cond.selects RX6 yX6_get yX6_get ∈ wsX2_beginOf := by decide +kernel
set_option maxRecDepth 100000 in
set_option maxHeartbeats 4000000 in
theorem c_X2_beginOf (l : Launch) (G : va_G) (cI cJ : ClassId) (ad : Nat → Nat) (a0 a1 a3 a4 a5 : Nat) (x_thingCount : Int32) (x_groupCount : Int32) (n_begins : Nat) (f_begins : Nat → Int32) (i1 : Int32) (N : Nat) (x : Int32) (hF0 : F_X2_beginOf N n_begins f_begins i1 = some x) : kk_I l yX2_beginOf wsX2_beginOf 1 0 0 21 [.ref a0, .int i1] G cI cJ ad [(a0, .inr (2, [.ref a1, .ref a3, .ref a5, .int x_thingCount, .int x_groupCount])), (a3, .inr (6, [.ref a4])), (a4, .inl (cI, n_begins, .inl f_begins))] x [(a0, .inr (2, [.ref a1, .ref a3, .ref a5, .int x_thingCount, .int x_groupCount])), (a3, .inr (6, [.ref a4])), (a4, .inl (cI, n_begins, .inl f_begins))] := by
  refine kk_ofI (cc := cX2_beginOf) (maxL := 2) (by decide) rfl (Nat.le_of_ble_eq_true rfl) ?_
  intro p e s m below meth c A Q ls H locs hx hb hml hown hts hE hw hl hret
  have F : kk_at p m c cX2_beginOf 2 s _ wsX2_beginOf RX2 G cI cJ ad A := ⟨⟨hx, hb, hml, hown, hts⟩, hE⟩
  have hl : lv_has ls 2 [(0, .ref a0), (1, .int i1)] := hl
  unfold F_X2_beginOf at hF0
  refine lv_aload_n hx hb dX2_beginOf_0 rfl (lv_at hl 0 rfl) ?_
  refine kk_get (T := TX2) F hw ui_X2_beginOf_X2 0 rfl rfl 1 (by decide) m_X2_beginOf_Cond_fieldLink_RX2_18_PerfectPew_Groups_begins_LPerfectPew_Row_ rfl dX2_beginOf_1 ?_
  refine lv_iload_n hx hb dX2_beginOf_4 rfl (lv_at hl 1 rfl) ?_
  obtain ⟨v1, ev1, hF0⟩ := kk_bind hF0
  refine kk_callI 0 0 hw (kk_runN (As := [.int i1]) (rest := []) F hw hl.1 (c_X6_get l G cI cJ ad a3 a4 n_begins f_begins i1 N v1 ev1 H.size) gX2_beginOf_X6_get_n38 rfl nl_36 m_X2_beginOf_Cond_initialized_yX6_get_cls m_X2_beginOf_Cond_instanceMethod_yX6_get m_X2_beginOf_Cond_selects_RX6_yX6_get_yX6_get md_X6_get ⟨Nat.le_of_ble_eq_true rfl, Nat.le_of_ble_eq_true rfl⟩ ⟨Nat.le_of_ble_eq_true rfl, Nat.le_of_ble_eq_true rfl⟩ 1 6 rfl rfl rfl rfl (Nat.le_of_ble_eq_true rfl) dX2_beginOf_5) ⟨rfl, rfl⟩ [1, 2] (by decide) rfl rfl (fun H locs hw => ?_)
  have hw : kk_wd G A s.heap [(a0, .inr (2, [.ref a1, .ref a3, .ref a5, .int x_thingCount, .int x_groupCount])), (a3, .inr (6, [.ref a4])), (a4, .inl (cI, n_begins, .inl f_begins))] H locs := hw
  have hy := Option.some.inj hF0
  subst hy
  exact hret dX2_beginOf_8 (by decide) (by decide) hw
set_option maxRecDepth 100000 in
set_option maxHeartbeats 4000000 in
theorem c_X2_sizeOf (l : Launch) (G : va_G) (cI cJ : ClassId) (ad : Nat → Nat) (a0 a1 a3 a4 a5 : Nat) (x_thingCount : Int32) (x_groupCount : Int32) (n_begins : Nat) (f_begins : Nat → Int32) (i1 : Int32) (N : Nat) (x : Int32) (hF0 : F_X2_sizeOf N n_begins f_begins i1 = some x) : kk_I l yX2_sizeOf wsX2_sizeOf 2 0 0 42 [.ref a0, .int i1] G cI cJ ad [(a0, .inr (2, [.ref a1, .ref a3, .ref a5, .int x_thingCount, .int x_groupCount])), (a3, .inr (6, [.ref a4])), (a4, .inl (cI, n_begins, .inl f_begins))] x [(a0, .inr (2, [.ref a1, .ref a3, .ref a5, .int x_thingCount, .int x_groupCount])), (a3, .inr (6, [.ref a4])), (a4, .inl (cI, n_begins, .inl f_begins))] := by
  refine kk_ofI (cc := cX2_sizeOf) (maxL := 2) (by decide) rfl (Nat.le_of_ble_eq_true rfl) ?_
  intro p e s m below meth c A Q ls H locs hx hb hml hown hts hE hw hl hret
  have F : kk_at p m c cX2_sizeOf 2 s _ wsX2_sizeOf RX2 G cI cJ ad A := ⟨⟨hx, hb, hml, hown, hts⟩, hE⟩
  have hl : lv_has ls 2 [(0, .ref a0), (1, .int i1)] := hl
  unfold F_X2_sizeOf at hF0
  refine lv_aload_n hx hb dX2_sizeOf_0 rfl (lv_at hl 0 rfl) ?_
  refine lv_iload_n hx hb dX2_sizeOf_1 rfl (lv_at hl 1 rfl) ?_
  obtain ⟨v1, ev1, hF0⟩ := kk_bind hF0
  refine kk_callI 0 0 hw (kk_runV (As := [.int i1]) (rest := []) F hw hl.1 (c_X2_endOf l G cI cJ ad a0 a1 a3 a4 a5 x_thingCount x_groupCount n_begins f_begins i1 N v1 ev1 H.size) gX2_sizeOf_X2_endOf rfl ⟨rfl, md_X2_endOf⟩ ⟨Nat.le_of_ble_eq_true rfl, Nat.le_of_ble_eq_true rfl⟩ ⟨Nat.le_of_ble_eq_true rfl, Nat.le_of_ble_eq_true rfl⟩ 0 2 rfl rfl rfl rfl (Nat.le_of_ble_eq_true rfl) dX2_sizeOf_2) ⟨rfl, rfl⟩ [0, 1, 2] (by decide) rfl rfl (fun H locs hw => ?_)
  have hw : kk_wd G A s.heap [(a0, .inr (2, [.ref a1, .ref a3, .ref a5, .int x_thingCount, .int x_groupCount])), (a3, .inr (6, [.ref a4])), (a4, .inl (cI, n_begins, .inl f_begins))] H locs := hw
  refine lv_aload_n hx hb dX2_sizeOf_5 rfl (lv_at hl 0 rfl) ?_
  refine lv_iload_n hx hb dX2_sizeOf_6 rfl (lv_at hl 1 rfl) ?_
  obtain ⟨v2, ev2, hF0⟩ := kk_bind hF0
  refine kk_callI 0 0 hw (kk_runV (As := [.int i1]) (rest := [.int v1]) F hw hl.1 (c_X2_beginOf l G cI cJ ad a0 a1 a3 a4 a5 x_thingCount x_groupCount n_begins f_begins i1 N v2 ev2 H.size) gX2_sizeOf_X2_beginOf rfl ⟨rfl, md_X2_beginOf⟩ ⟨Nat.le_of_ble_eq_true rfl, Nat.le_of_ble_eq_true rfl⟩ ⟨Nat.le_of_ble_eq_true rfl, Nat.le_of_ble_eq_true rfl⟩ 0 2 rfl rfl rfl rfl (Nat.le_of_ble_eq_true rfl) dX2_sizeOf_7) ⟨rfl, rfl⟩ [0, 1, 2] (by decide) rfl rfl (fun H locs hw => ?_)
  have hw : kk_wd G A s.heap [(a0, .inr (2, [.ref a1, .ref a3, .ref a5, .int x_thingCount, .int x_groupCount])), (a3, .inr (6, [.ref a4])), (a4, .inl (cI, n_begins, .inl f_begins))] H locs := hw
  refine lv_isub hx hb dX2_sizeOf_10 ?_
  have hy := Option.some.inj hF0
  subst hy
  exact hret dX2_sizeOf_11 (by decide) (by decide) hw
theorem ui_X2_memberAt_X2 : ∀ w ∈ u_ws RX2 TX2 5, w ∈ wsX2_memberAt := by decide +kernel
theorem m_X2_memberAt_Cond_fieldLink_RX2_21_PerfectPew_Groups_members_LPerfectPew_Row_ : Cond.fieldLink RX2 21 "PerfectPew$Groups" "members" "LPerfectPew$Row;" ∈ wsX2_memberAt := by decide +kernel
theorem m_X2_memberAt_Cond_initialized_yX6_get_cls : Cond.initialized yX6_get.cls ∈ wsX2_memberAt := by decide +kernel
theorem m_X2_memberAt_Cond_instanceMethod_yX6_get : Cond.instanceMethod yX6_get ∈ wsX2_memberAt := by decide +kernel
theorem m_X2_memberAt_Cond_selects_RX6_yX6_get_yX6_get : Cond.selects RX6 yX6_get yX6_get ∈ wsX2_memberAt := by decide +kernel
set_option maxRecDepth 100000 in
set_option maxHeartbeats 4000000 in
theorem c_X2_memberAt (l : Launch) (G : va_G) (cI cJ : ClassId) (ad : Nat → Nat) (a0 a1 a3 a5 a6 : Nat) (x_thingCount : Int32) (x_groupCount : Int32) (n_members : Nat) (f_members : Nat → Int32) (i1 : Int32) (N : Nat) (x : Int32) (hF0 : F_X2_memberAt N n_members f_members i1 = some x) : kk_I l yX2_memberAt wsX2_memberAt 1 0 0 21 [.ref a0, .int i1] G cI cJ ad [(a0, .inr (2, [.ref a1, .ref a3, .ref a5, .int x_thingCount, .int x_groupCount])), (a5, .inr (6, [.ref a6])), (a6, .inl (cI, n_members, .inl f_members))] x [(a0, .inr (2, [.ref a1, .ref a3, .ref a5, .int x_thingCount, .int x_groupCount])), (a5, .inr (6, [.ref a6])), (a6, .inl (cI, n_members, .inl f_members))] := by
  refine kk_ofI (cc := cX2_memberAt) (maxL := 2) (by decide) rfl (Nat.le_of_ble_eq_true rfl) ?_
  intro p e s m below meth c A Q ls H locs hx hb hml hown hts hE hw hl hret
  have F : kk_at p m c cX2_memberAt 2 s _ wsX2_memberAt RX2 G cI cJ ad A := ⟨⟨hx, hb, hml, hown, hts⟩, hE⟩
  have hl : lv_has ls 2 [(0, .ref a0), (1, .int i1)] := hl
  unfold F_X2_memberAt at hF0
  refine lv_aload_n hx hb dX2_memberAt_0 rfl (lv_at hl 0 rfl) ?_
  refine kk_get (T := TX2) F hw ui_X2_memberAt_X2 0 rfl rfl 2 (by decide) m_X2_memberAt_Cond_fieldLink_RX2_21_PerfectPew_Groups_members_LPerfectPew_Row_ rfl dX2_memberAt_1 ?_
  refine lv_iload_n hx hb dX2_memberAt_4 rfl (lv_at hl 1 rfl) ?_
  obtain ⟨v1, ev1, hF0⟩ := kk_bind hF0
  refine kk_callI 0 0 hw (kk_runN (As := [.int i1]) (rest := []) F hw hl.1 (c_X6_get l G cI cJ ad a5 a6 n_members f_members i1 N v1 ev1 H.size) gX2_memberAt_X6_get_n38 rfl nl_36 m_X2_memberAt_Cond_initialized_yX6_get_cls m_X2_memberAt_Cond_instanceMethod_yX6_get m_X2_memberAt_Cond_selects_RX6_yX6_get_yX6_get md_X6_get ⟨Nat.le_of_ble_eq_true rfl, Nat.le_of_ble_eq_true rfl⟩ ⟨Nat.le_of_ble_eq_true rfl, Nat.le_of_ble_eq_true rfl⟩ 1 6 rfl rfl rfl rfl (Nat.le_of_ble_eq_true rfl) dX2_memberAt_5) ⟨rfl, rfl⟩ [1, 2] (by decide) rfl rfl (fun H locs hw => ?_)
  have hw : kk_wd G A s.heap [(a0, .inr (2, [.ref a1, .ref a3, .ref a5, .int x_thingCount, .int x_groupCount])), (a5, .inr (6, [.ref a6])), (a6, .inl (cI, n_members, .inl f_members))] H locs := hw
  have hy := Option.some.inj hF0
  subst hy
  exact hret dX2_memberAt_8 (by decide) (by decide) hw
theorem ui_X2_groupOf_X2 : ∀ w ∈ u_ws RX2 TX2 5, w ∈ wsX2_groupOf := by decide +kernel
theorem m_X2_groupOf_Cond_fieldLink_RX2_12_PerfectPew_Groups_groups_LPerfectPew_Row_ : Cond.fieldLink RX2 12 "PerfectPew$Groups" "groups" "LPerfectPew$Row;" ∈ wsX2_groupOf := by decide +kernel
theorem m_X2_groupOf_Cond_initialized_yX6_get_cls : Cond.initialized yX6_get.cls ∈ wsX2_groupOf := by decide +kernel
theorem m_X2_groupOf_Cond_instanceMethod_yX6_get : Cond.instanceMethod yX6_get ∈ wsX2_groupOf := by decide +kernel
theorem m_X2_groupOf_Cond_selects_RX6_yX6_get_yX6_get : Cond.selects RX6 yX6_get yX6_get ∈ wsX2_groupOf := by decide +kernel
set_option maxRecDepth 100000 in
set_option maxHeartbeats 4000000 in
theorem c_X2_groupOf (l : Launch) (G : va_G) (cI cJ : ClassId) (ad : Nat → Nat) (a0 a1 a2 a3 a5 : Nat) (x_thingCount : Int32) (x_groupCount : Int32) (n_groups : Nat) (f_groups : Nat → Int32) (i1 : Int32) (N : Nat) (x : Int32) (hF0 : F_X2_groupOf N n_groups f_groups i1 = some x) : kk_I l yX2_groupOf wsX2_groupOf 1 0 0 21 [.ref a0, .int i1] G cI cJ ad [(a0, .inr (2, [.ref a1, .ref a3, .ref a5, .int x_thingCount, .int x_groupCount])), (a1, .inr (6, [.ref a2])), (a2, .inl (cI, n_groups, .inl f_groups))] x [(a0, .inr (2, [.ref a1, .ref a3, .ref a5, .int x_thingCount, .int x_groupCount])), (a1, .inr (6, [.ref a2])), (a2, .inl (cI, n_groups, .inl f_groups))] := by
  refine kk_ofI (cc := cX2_groupOf) (maxL := 2) (by decide) rfl (Nat.le_of_ble_eq_true rfl) ?_
  intro p e s m below meth c A Q ls H locs hx hb hml hown hts hE hw hl hret
  have F : kk_at p m c cX2_groupOf 2 s _ wsX2_groupOf RX2 G cI cJ ad A := ⟨⟨hx, hb, hml, hown, hts⟩, hE⟩
  have hl : lv_has ls 2 [(0, .ref a0), (1, .int i1)] := hl
  unfold F_X2_groupOf at hF0
  refine lv_aload_n hx hb dX2_groupOf_0 rfl (lv_at hl 0 rfl) ?_
  refine kk_get (T := TX2) F hw ui_X2_groupOf_X2 0 rfl rfl 0 (by decide) m_X2_groupOf_Cond_fieldLink_RX2_12_PerfectPew_Groups_groups_LPerfectPew_Row_ rfl dX2_groupOf_1 ?_
  refine lv_iload_n hx hb dX2_groupOf_4 rfl (lv_at hl 1 rfl) ?_
  obtain ⟨v1, ev1, hF0⟩ := kk_bind hF0
  refine kk_callI 0 0 hw (kk_runN (As := [.int i1]) (rest := []) F hw hl.1 (c_X6_get l G cI cJ ad a1 a2 n_groups f_groups i1 N v1 ev1 H.size) gX2_groupOf_X6_get_n38 rfl nl_36 m_X2_groupOf_Cond_initialized_yX6_get_cls m_X2_groupOf_Cond_instanceMethod_yX6_get m_X2_groupOf_Cond_selects_RX6_yX6_get_yX6_get md_X6_get ⟨Nat.le_of_ble_eq_true rfl, Nat.le_of_ble_eq_true rfl⟩ ⟨Nat.le_of_ble_eq_true rfl, Nat.le_of_ble_eq_true rfl⟩ 1 6 rfl rfl rfl rfl (Nat.le_of_ble_eq_true rfl) dX2_groupOf_5) ⟨rfl, rfl⟩ [1, 2] (by decide) rfl rfl (fun H locs hw => ?_)
  have hw : kk_wd G A s.heap [(a0, .inr (2, [.ref a1, .ref a3, .ref a5, .int x_thingCount, .int x_groupCount])), (a1, .inr (6, [.ref a2])), (a2, .inl (cI, n_groups, .inl f_groups))] H locs := hw
  have hy := Option.some.inj hF0
  subst hy
  exact hret dX2_groupOf_8 (by decide) (by decide) hw
theorem ui_X4_rankOf_X4 : ∀ w ∈ u_ws RX4 TX4 2, w ∈ wsX4_rankOf := by decide +kernel
theorem m_X4_rankOf_Cond_fieldLink_RX4_24_PerfectPew_KeyList_size_I_ : Cond.fieldLink RX4 24 "PerfectPew$KeyList" "size" "I" ∈ wsX4_rankOf := by decide +kernel
theorem m_X4_rankOf_Cond_fieldLink_RX4_14_PerfectPew_KeyList_places_LPerfectPew_Row_ : Cond.fieldLink RX4 14 "PerfectPew$KeyList" "places" "LPerfectPew$Row;" ∈ wsX4_rankOf := by decide +kernel
theorem m_X4_rankOf_Cond_initialized_yX6_get_cls : Cond.initialized yX6_get.cls ∈ wsX4_rankOf := by decide +kernel
theorem m_X4_rankOf_Cond_instanceMethod_yX6_get : Cond.instanceMethod yX6_get ∈ wsX4_rankOf := by decide +kernel
theorem m_X4_rankOf_Cond_selects_RX6_yX6_get_yX6_get : Cond.selects RX6 yX6_get yX6_get ∈ wsX4_rankOf := by decide +kernel
set_option maxRecDepth 100000 in
set_option maxHeartbeats 4000000 in
theorem c_X4_rankOf (l : Launch) (G : va_G) (cI cJ : ClassId) (ad : Nat → Nat) (a0 a1 a2 : Nat) (x_size : Int32) (f_places : Nat → Int32) (i1 : Int32) (N : Nat) (x : Int32) (hF0 : F_X4_rankOf N x_size f_places i1 = some x) : kk_I l yX4_rankOf wsX4_rankOf 1 0 0 21 [.ref a0, .int i1] G cI cJ ad [(a0, .inr (4, [.ref a1, .int x_size])), (a1, .inr (6, [.ref a2])), (a2, .inl (cI, 120, .inl f_places))] x [(a0, .inr (4, [.ref a1, .int x_size])), (a1, .inr (6, [.ref a2])), (a2, .inl (cI, 120, .inl f_places))] := by
  refine kk_ofI (cc := cX4_rankOf) (maxL := 3) (by decide) rfl (Nat.le_of_ble_eq_true rfl) ?_
  intro p e s m below meth c A Q ls H locs hx hb hml hown hts hE hw hl hret
  have F : kk_at p m c cX4_rankOf 3 s _ wsX4_rankOf RX4 G cI cJ ad A := ⟨⟨hx, hb, hml, hown, hts⟩, hE⟩
  have hl : lv_has ls 3 [(0, .ref a0), (1, .int i1)] := hl
  unfold F_X4_rankOf at hF0
  have hJ1 : ∀ (i2_1 : Int32), J_X4_rankOf_28 N i2_1 = some x → ∀ (H : Heap) (locs : List Loc) (ls : Array Slot), kk_wd G A s.heap [(a0, .inr (4, [.ref a1, .int x_size])), (a1, .inr (6, [.ref a2])), (a2, .inl (cI, 120, .inl f_places))] H locs → lv_has ls 3 [(2, .int i2_1)] → W p l e (kk_rm 1 0 0 21) s m ([.ref a0, .int i1] : List Value).toArray below meth c H locs 0 0 Q (F0 m 28 ls []) := by
    intro i2_1 hF0 H locs ls hw hl
    unfold J_X4_rankOf_28 at hF0
    refine lv_iload_n hx hb dX4_rankOf_28 rfl (lv_at hl 0 rfl) ?_
    have hy := Option.some.inj hF0
    subst hy
    exact hret dX4_rankOf_29 (by decide) (by decide) hw
  refine lv_iconst (v := 0) hx hb dX4_rankOf_0 (by decide) ?_
  refine lv_istore_n (lv' := [(2, .int 0), (0, .ref a0), (1, .int i1)]) hx hb dX4_rankOf_1 rfl hl (by decide) rfl (fun ls hl => ?_)
  obtain ⟨z2, hz3, hF0⟩ := kk_bind hF0
  have hL3 : ∀ (n3 : Nat) (i2_3 : Int32), kk_iter (fun (σ : Int32) => L_X4_rankOf_2 N x_size f_places i1 σ) n3 i2_3 = some z2 → ∀ (H : Heap) (locs : List Loc) (ls : Array Slot), kk_wd G A s.heap [(a0, .inr (4, [.ref a1, .int x_size])), (a1, .inr (6, [.ref a2])), (a2, .inl (cI, 120, .inl f_places))] H locs → lv_has ls 3 [(0, .ref a0), (1, .int i1), (2, .int i2_3)] → W p l e (kk_rm 1 0 0 21) s m ([.ref a0, .int i1] : List Value).toArray below meth c H locs 0 0 Q (F0 m 2 ls []) := by
    intro n3
    induction n3 with
    | zero => intro i2_3 h; exact kk_iter0 h
    | succ n3 ih3 =>
      intro i2_3 hq H locs ls hw hl
      obtain ⟨y3, hF1, hI1⟩ := kk_iterS hq
      have hF1 : L_X4_rankOf_2 N x_size f_places i1 i2_3 = some y3 := hF1
      unfold L_X4_rankOf_2 at hF1
      refine lv_iload_n hx hb dX4_rankOf_2 rfl (lv_at hl 2 rfl) ?_
      refine lv_aload_n hx hb dX4_rankOf_3 rfl (lv_at hl 0 rfl) ?_
      refine kk_get (T := TX4) F hw ui_X4_rankOf_X4 0 rfl rfl 1 (by decide) m_X4_rankOf_Cond_fieldLink_RX4_24_PerfectPew_KeyList_size_I_ rfl dX4_rankOf_4 ?_
      refine lv_icmp_ge (tgt := 28) hx hb dX4_rankOf_7 (by decide) (fun c4 => ?_) (fun c4 => ?_)
      · have hF1 := (if_pos c4).symm.trans hF1
        have hy := Option.some.inj hF1
        subst hy
        have hz := Option.some.inj hI1
        subst hz
        exact hJ1 i2_3 hF0 _ _ _ hw (lv_sub hl [2] rfl)
      · have hF1 := (if_neg c4).symm.trans hF1
        refine lv_aload_n hx hb dX4_rankOf_10 rfl (lv_at hl 0 rfl) ?_
        refine kk_get (T := TX4) F hw ui_X4_rankOf_X4 0 rfl rfl 0 (by decide) m_X4_rankOf_Cond_fieldLink_RX4_14_PerfectPew_KeyList_places_LPerfectPew_Row_ rfl dX4_rankOf_11 ?_
        refine lv_iload_n hx hb dX4_rankOf_14 rfl (lv_at hl 2 rfl) ?_
        obtain ⟨v5, ev5, hF1⟩ := kk_bind hF1
        refine kk_callI 0 0 hw (kk_runN (As := [.int i2_3]) (rest := []) F hw hl.1 (c_X6_get l G cI cJ ad a1 a2 120 f_places i2_3 N v5 ev5 H.size) gX4_rankOf_X6_get_n20 rfl nl_22 m_X4_rankOf_Cond_initialized_yX6_get_cls m_X4_rankOf_Cond_instanceMethod_yX6_get m_X4_rankOf_Cond_selects_RX6_yX6_get_yX6_get md_X6_get ⟨Nat.le_of_ble_eq_true rfl, Nat.le_of_ble_eq_true rfl⟩ ⟨Nat.le_of_ble_eq_true rfl, Nat.le_of_ble_eq_true rfl⟩ 1 6 rfl rfl rfl rfl (Nat.le_of_ble_eq_true rfl) dX4_rankOf_15) ⟨rfl, rfl⟩ [1, 2] (by decide) rfl rfl (fun H locs hw => ?_)
        have hw : kk_wd G A s.heap [(a0, .inr (4, [.ref a1, .int x_size])), (a1, .inr (6, [.ref a2])), (a2, .inl (cI, 120, .inl f_places))] H locs := hw
        refine lv_iload_n hx hb dX4_rankOf_18 rfl (lv_at hl 1 rfl) ?_
        refine lv_icmp_ge (tgt := 28) hx hb dX4_rankOf_19 (by decide) (fun c6 => ?_) (fun c6 => ?_)
        · have hF1 := (if_pos c6).symm.trans hF1
          have hy := Option.some.inj hF1
          subst hy
          have hz := Option.some.inj hI1
          subst hz
          exact hJ1 i2_3 hF0 _ _ _ hw (lv_sub hl [2] rfl)
        · have hF1 := (if_neg c6).symm.trans hF1
          refine lv_iinc (v := (i2_3 + 1)) (lv' := [(2, .int (i2_3 + 1)), (0, .ref a0), (1, .int i1)]) hx hb dX4_rankOf_22 hl (k := 2) rfl rfl (by decide) rfl (fun ls hl => ?_)
          refine lv_goto (tgt := 2) hx hb dX4_rankOf_25 (by decide) ?_
          have hy := Option.some.inj hF1
          subst hy
          exact ih3 (i2_3 + 1) hI1 _ _ _ hw (lv_sub hl [1, 2, 0] rfl)
  exact hL3 N 0 hz3 _ _ _ hw (lv_sub hl [1, 2, 0] rfl)
theorem ui_X4_holds_X4 : ∀ w ∈ u_ws RX4 TX4 2, w ∈ wsX4_holds := by decide +kernel
theorem m_X4_holds_Cond_fieldLink_RX4_24_PerfectPew_KeyList_size_I_ : Cond.fieldLink RX4 24 "PerfectPew$KeyList" "size" "I" ∈ wsX4_holds := by decide +kernel
theorem m_X4_holds_Cond_fieldLink_RX4_14_PerfectPew_KeyList_places_LPerfectPew_Row_ : Cond.fieldLink RX4 14 "PerfectPew$KeyList" "places" "LPerfectPew$Row;" ∈ wsX4_holds := by decide +kernel
theorem m_X4_holds_Cond_initialized_yX6_get_cls : Cond.initialized yX6_get.cls ∈ wsX4_holds := by decide +kernel
theorem m_X4_holds_Cond_instanceMethod_yX6_get : Cond.instanceMethod yX6_get ∈ wsX4_holds := by decide +kernel
theorem m_X4_holds_Cond_selects_RX6_yX6_get_yX6_get : Cond.selects RX6 yX6_get yX6_get ∈ wsX4_holds := by decide +kernel
set_option maxRecDepth 100000 in
set_option maxHeartbeats 4000000 in
theorem c_X4_holds (l : Launch) (G : va_G) (cI cJ : ClassId) (ad : Nat → Nat) (a0 a1 a2 : Nat) (x_size : Int32) (f_places : Nat → Int32) (i1 : Int32) (N : Nat) (x : Int32) (hF0 : F_X4_holds N x_size f_places i1 = some x) : kk_I l yX4_holds wsX4_holds 2 0 0 43 [.ref a0, .int i1] G cI cJ ad [(a0, .inr (4, [.ref a1, .int x_size])), (a1, .inr (6, [.ref a2])), (a2, .inl (cI, 120, .inl f_places))] x [(a0, .inr (4, [.ref a1, .int x_size])), (a1, .inr (6, [.ref a2])), (a2, .inl (cI, 120, .inl f_places))] := by
  refine kk_ofZ (cc := cX4_holds) (maxL := 3) (by decide) rfl (Nat.le_of_ble_eq_true rfl) ?_
  intro p e s m below meth c A Q ls H locs hx hb hml hown hts hE hw hl hret
  have F : kk_at p m c cX4_holds 3 s _ wsX4_holds RX4 G cI cJ ad A := ⟨⟨hx, hb, hml, hown, hts⟩, hE⟩
  have hl : lv_has ls 3 [(0, .ref a0), (1, .int i1)] := hl
  unfold F_X4_holds at hF0
  have hJ1 : ∀ (s0_1 : Int32), J_X4_holds_31 N s0_1 = some x → ∀ (H : Heap) (locs : List Loc) (ls : Array Slot), kk_wd G A s.heap [(a0, .inr (4, [.ref a1, .int x_size])), (a1, .inr (6, [.ref a2])), (a2, .inl (cI, 120, .inl f_places))] H locs → lv_has ls 3 [] → W p l e (kk_rm 2 0 0 43) s m ([.ref a0, .int i1] : List Value).toArray below meth c H locs 0 0 Q (F0 m 31 ls [.int s0_1]) := by
    intro s0_1 hF0 H locs ls hw hl
    unfold J_X4_holds_31 at hF0
    obtain ⟨u2, eu2, hF0⟩ := kk_bind hF0
    have hy := Option.some.inj hF0
    subst hy
    exact hret dX4_holds_31 (by decide) (by decide) (kk_bl_ok eu2) hw
  have hJ3 : ∀ (_ : Unit), J_X4_holds_30 N = some x → ∀ (H : Heap) (locs : List Loc) (ls : Array Slot), kk_wd G A s.heap [(a0, .inr (4, [.ref a1, .int x_size])), (a1, .inr (6, [.ref a2])), (a2, .inl (cI, 120, .inl f_places))] H locs → lv_has ls 3 [] → W p l e (kk_rm 2 0 0 43) s m ([.ref a0, .int i1] : List Value).toArray below meth c H locs 0 0 Q (F0 m 30 ls []) := by
    intro _ hF0 H locs ls hw hl
    unfold J_X4_holds_30 at hF0
    refine lv_iconst (v := 0) hx hb dX4_holds_30 (by decide) ?_
    exact hJ1 0 hF0 _ _ _ hw (lv_sub hl [] rfl)
  refine lv_aload_n hx hb dX4_holds_0 rfl (lv_at hl 0 rfl) ?_
  refine lv_iload_n hx hb dX4_holds_1 rfl (lv_at hl 1 rfl) ?_
  obtain ⟨v4, ev4, hF0⟩ := kk_bind hF0
  refine kk_callI 0 0 hw (kk_runV (As := [.int i1]) (rest := []) F hw hl.1 (c_X4_rankOf l G cI cJ ad a0 a1 a2 x_size f_places i1 N v4 ev4 H.size) gX4_holds_X4_rankOf rfl ⟨rfl, md_X4_rankOf⟩ ⟨Nat.le_of_ble_eq_true rfl, Nat.le_of_ble_eq_true rfl⟩ ⟨Nat.le_of_ble_eq_true rfl, Nat.le_of_ble_eq_true rfl⟩ 0 4 rfl rfl rfl rfl (Nat.le_of_ble_eq_true rfl) dX4_holds_2) ⟨rfl, rfl⟩ [0, 1, 2] (by decide) rfl rfl (fun H locs hw => ?_)
  have hw : kk_wd G A s.heap [(a0, .inr (4, [.ref a1, .int x_size])), (a1, .inr (6, [.ref a2])), (a2, .inl (cI, 120, .inl f_places))] H locs := hw
  refine lv_istore_n (lv' := [(2, .int v4), (0, .ref a0), (1, .int i1)]) hx hb dX4_holds_5 rfl hl (by decide) rfl (fun ls hl => ?_)
  refine lv_iload_n hx hb dX4_holds_6 rfl (lv_at hl 0 rfl) ?_
  refine lv_aload_n hx hb dX4_holds_7 rfl (lv_at hl 1 rfl) ?_
  refine kk_get (T := TX4) F hw ui_X4_holds_X4 0 rfl rfl 1 (by decide) m_X4_holds_Cond_fieldLink_RX4_24_PerfectPew_KeyList_size_I_ rfl dX4_holds_8 ?_
  refine lv_icmp_ge (tgt := 30) hx hb dX4_holds_11 (by decide) (fun c5 => ?_) (fun c5 => ?_)
  · have hF0 := (if_pos c5).symm.trans hF0
    exact hJ3 ()  hF0 _ _ _ hw (lv_sub hl [] rfl)
  · have hF0 := (if_neg c5).symm.trans hF0
    refine lv_aload_n hx hb dX4_holds_14 rfl (lv_at hl 1 rfl) ?_
    refine kk_get (T := TX4) F hw ui_X4_holds_X4 0 rfl rfl 0 (by decide) m_X4_holds_Cond_fieldLink_RX4_14_PerfectPew_KeyList_places_LPerfectPew_Row_ rfl dX4_holds_15 ?_
    refine lv_iload_n hx hb dX4_holds_18 rfl (lv_at hl 0 rfl) ?_
    obtain ⟨v6, ev6, hF0⟩ := kk_bind hF0
    refine kk_callI 0 0 hw (kk_runN (As := [.int v4]) (rest := []) F hw hl.1 (c_X6_get l G cI cJ ad a1 a2 120 f_places v4 N v6 ev6 H.size) gX4_holds_X6_get_n20 rfl nl_22 m_X4_holds_Cond_initialized_yX6_get_cls m_X4_holds_Cond_instanceMethod_yX6_get m_X4_holds_Cond_selects_RX6_yX6_get_yX6_get md_X6_get ⟨Nat.le_of_ble_eq_true rfl, Nat.le_of_ble_eq_true rfl⟩ ⟨Nat.le_of_ble_eq_true rfl, Nat.le_of_ble_eq_true rfl⟩ 1 6 rfl rfl rfl rfl (Nat.le_of_ble_eq_true rfl) dX4_holds_19) ⟨rfl, rfl⟩ [1, 2] (by decide) rfl rfl (fun H locs hw => ?_)
    have hw : kk_wd G A s.heap [(a0, .inr (4, [.ref a1, .int x_size])), (a1, .inr (6, [.ref a2])), (a2, .inl (cI, 120, .inl f_places))] H locs := hw
    refine lv_iload_n hx hb dX4_holds_22 rfl (lv_at hl 2 rfl) ?_
    refine lv_icmp_ne (tgt := 30) hx hb dX4_holds_23 (by decide) (fun c7 => ?_) (fun c7 => ?_)
    · have hF0 := (if_neg c7).symm.trans hF0
      exact hJ3 ()  hF0 _ _ _ hw (lv_sub hl [] rfl)
    · have hF0 := (if_pos c7).symm.trans hF0
      refine lv_iconst (v := 1) hx hb dX4_holds_26 (by decide) ?_
      refine lv_goto (tgt := 31) hx hb dX4_holds_27 (by decide) ?_
      exact hJ1 1 hF0 _ _ _ hw (lv_sub hl [] rfl)
theorem ui_X4_insert_X4 : ∀ w ∈ u_ws RX4 TX4 2, w ∈ wsX4_insert := by decide +kernel
theorem m_X4_insert_Cond_fieldLink_RX4_14_PerfectPew_KeyList_places_LPerfectPew_Row_ : Cond.fieldLink RX4 14 "PerfectPew$KeyList" "places" "LPerfectPew$Row;" ∈ wsX4_insert := by decide +kernel
theorem m_X4_insert_Cond_fieldLink_RX4_24_PerfectPew_KeyList_size_I_ : Cond.fieldLink RX4 24 "PerfectPew$KeyList" "size" "I" ∈ wsX4_insert := by decide +kernel
theorem m_X4_insert_Cond_initialized_yX6_set_cls : Cond.initialized yX6_set.cls ∈ wsX4_insert := by decide +kernel
theorem m_X4_insert_Cond_instanceMethod_yX6_set : Cond.instanceMethod yX6_set ∈ wsX4_insert := by decide +kernel
theorem m_X4_insert_Cond_selects_RX6_yX6_set_yX6_set : Cond.selects RX6 yX6_set yX6_set ∈ wsX4_insert := by decide +kernel
theorem m_X4_insert_Cond_initialized_yX6_get_cls : Cond.initialized yX6_get.cls ∈ wsX4_insert := by decide +kernel
theorem m_X4_insert_Cond_instanceMethod_yX6_get : Cond.instanceMethod yX6_get ∈ wsX4_insert := by decide +kernel
theorem m_X4_insert_Cond_selects_RX6_yX6_get_yX6_get : Cond.selects RX6 yX6_get yX6_get ∈ wsX4_insert := by decide +kernel
set_option maxRecDepth 100000 in
set_option maxHeartbeats 4000000 in
theorem c_X4_insert (l : Launch) (G : va_G) (cI cJ : ClassId) (ad : Nat → Nat) (a0 a1 a2 : Nat) (x_size : Int32) (f_places : Nat → Int32) (i1 : Int32) (N : Nat) (x : (Int32 × (Nat → Int32))) (hF0 : F_X4_insert N x_size f_places i1 = some x) : kk_V l yX4_insert wsX4_insert 2 0 0 43 [.ref a0, .int i1] G cI cJ ad [(a0, .inr (4, [.ref a1, .int x_size])), (a1, .inr (6, [.ref a2])), (a2, .inl (cI, 120, .inl f_places))] [(a0, .inr (4, [.ref a1, .int x.1])), (a1, .inr (6, [.ref a2])), (a2, .inl (cI, 120, .inl x.2))] := by
  refine kk_ofV (cc := cX4_insert) (maxL := 4) (by decide) rfl (Nat.le_of_ble_eq_true rfl) ?_
  intro p e s m below meth c A Q ls H locs hx hb hml hown hts hE hw hl hret
  have F : kk_at p m c cX4_insert 4 s _ wsX4_insert RX4 G cI cJ ad A := ⟨⟨hx, hb, hml, hown, hts⟩, hE⟩
  have hl : lv_has ls 4 [(0, .ref a0), (1, .int i1)] := hl
  unfold F_X4_insert at hF0
  have hJ1 : ∀ (x_size_1 : Int32) (f_places_1 : Nat → Int32) (i2_1 : Int32), J_X4_insert_40 N x_size_1 f_places_1 i1 i2_1 = some x → ∀ (H : Heap) (locs : List Loc) (ls : Array Slot), kk_wd G A s.heap [(a0, .inr (4, [.ref a1, .int x_size_1])), (a1, .inr (6, [.ref a2])), (a2, .inl (cI, 120, .inl f_places_1))] H locs → lv_has ls 4 [(0, .ref a0), (1, .int i1), (2, .int i2_1)] → W p l e (kk_rm 2 0 0 43) s m ([.ref a0, .int i1] : List Value).toArray below meth c H locs 0 0 Q (F0 m 40 ls []) := by
    intro x_size_1 f_places_1 i2_1 hF0 H locs ls hw hl
    unfold J_X4_insert_40 at hF0
    refine lv_aload_n hx hb dX4_insert_40 rfl (lv_at hl 0 rfl) ?_
    refine kk_get (T := TX4) F hw ui_X4_insert_X4 0 rfl rfl 0 (by decide) m_X4_insert_Cond_fieldLink_RX4_14_PerfectPew_KeyList_places_LPerfectPew_Row_ rfl dX4_insert_41 ?_
    refine lv_iload_n hx hb dX4_insert_44 rfl (lv_at hl 2 rfl) ?_
    refine lv_iload_n hx hb dX4_insert_45 rfl (lv_at hl 1 rfl) ?_
    obtain ⟨v2, ev2, hF0⟩ := kk_bind hF0
    refine kk_callV 0 0 hw (kk_runN (As := [.int i2_1, .int i1]) (rest := []) F hw hl.1 (c_X6_set l G cI cJ ad a1 a2 120 f_places_1 i2_1 i1 N v2 ev2 H.size) gX4_insert_X6_set_n31 rfl nl_24 m_X4_insert_Cond_initialized_yX6_set_cls m_X4_insert_Cond_instanceMethod_yX6_set m_X4_insert_Cond_selects_RX6_yX6_set_yX6_set md_X6_set ⟨Nat.le_of_ble_eq_true rfl, Nat.le_of_ble_eq_true rfl⟩ ⟨Nat.le_of_ble_eq_true rfl, Nat.le_of_ble_eq_true rfl⟩ 1 6 rfl rfl rfl rfl (Nat.le_of_ble_eq_true rfl) dX4_insert_46) ⟨rfl, rfl⟩ [1, 2] (by decide) rfl rfl (fun H locs hw => ?_)
    have hw : kk_wd G A s.heap [(a0, .inr (4, [.ref a1, .int x_size_1])), (a1, .inr (6, [.ref a2])), (a2, .inl (cI, 120, .inl v2))] H locs := hw
    refine lv_aload_n hx hb dX4_insert_49 rfl (lv_at hl 0 rfl) ?_
    refine lv_dup hx hb dX4_insert_50 rfl ?_
    refine kk_get (T := TX4) F hw ui_X4_insert_X4 0 rfl rfl 1 (by decide) m_X4_insert_Cond_fieldLink_RX4_24_PerfectPew_KeyList_size_I_ rfl dX4_insert_51 ?_
    refine lv_iconst (v := 1) hx hb dX4_insert_54 (by decide) ?_
    refine lv_iadd hx hb dX4_insert_55 ?_
    refine kk_put F hw ui_X4_insert_X4 tyX4 tyX4_ok nmX4 0 rfl rfl 1 (by decide) m_X4_insert_Cond_fieldLink_RX4_24_PerfectPew_KeyList_size_I_ rfl rfl rfl (Nat.le_of_ble_eq_true rfl) dX4_insert_56 (fun H locs hw => ?_)
    have hw : kk_wd G A s.heap [(a0, .inr (4, [.ref a1, .int (x_size_1 + 1)])), (a1, .inr (6, [.ref a2])), (a2, .inl (cI, 120, .inl v2))] H locs := hw
    have hy := Option.some.inj hF0
    subst hy
    exact hret dX4_insert_59 (by decide) (by decide) hw
  refine lv_aload_n hx hb dX4_insert_0 rfl (lv_at hl 0 rfl) ?_
  refine lv_iload_n hx hb dX4_insert_1 rfl (lv_at hl 1 rfl) ?_
  obtain ⟨v3, ev3, hF0⟩ := kk_bind hF0
  refine kk_callI 0 0 hw (kk_runV (As := [.int i1]) (rest := []) F hw hl.1 (c_X4_rankOf l G cI cJ ad a0 a1 a2 x_size f_places i1 N v3 ev3 H.size) gX4_insert_X4_rankOf rfl ⟨rfl, md_X4_rankOf⟩ ⟨Nat.le_of_ble_eq_true rfl, Nat.le_of_ble_eq_true rfl⟩ ⟨Nat.le_of_ble_eq_true rfl, Nat.le_of_ble_eq_true rfl⟩ 0 4 rfl rfl rfl rfl (Nat.le_of_ble_eq_true rfl) dX4_insert_2) ⟨rfl, rfl⟩ [0, 1, 2] (by decide) rfl rfl (fun H locs hw => ?_)
  have hw : kk_wd G A s.heap [(a0, .inr (4, [.ref a1, .int x_size])), (a1, .inr (6, [.ref a2])), (a2, .inl (cI, 120, .inl f_places))] H locs := hw
  refine lv_istore_n (lv' := [(2, .int v3), (0, .ref a0), (1, .int i1)]) hx hb dX4_insert_5 rfl hl (by decide) rfl (fun ls hl => ?_)
  refine lv_aload_n hx hb dX4_insert_6 rfl (lv_at hl 1 rfl) ?_
  refine kk_get (T := TX4) F hw ui_X4_insert_X4 0 rfl rfl 1 (by decide) m_X4_insert_Cond_fieldLink_RX4_24_PerfectPew_KeyList_size_I_ rfl dX4_insert_7 ?_
  refine lv_istore_n (lv' := [(3, .int x_size), (2, .int v3), (0, .ref a0), (1, .int i1)]) hx hb dX4_insert_10 rfl hl (by decide) rfl (fun ls hl => ?_)
  obtain ⟨z4, hz5, hF0⟩ := kk_bind hF0
  have hL5 : ∀ (n5 : Nat) (f_places_5 : Nat → Int32) (i3_5 : Int32), kk_iter (fun (σ : ((Nat → Int32) × Int32)) => L_X4_insert_11 N v3 σ.1 σ.2) n5 (f_places_5, i3_5) = some z4 → ∀ (H : Heap) (locs : List Loc) (ls : Array Slot), kk_wd G A s.heap [(a0, .inr (4, [.ref a1, .int x_size])), (a1, .inr (6, [.ref a2])), (a2, .inl (cI, 120, .inl f_places_5))] H locs → lv_has ls 4 [(0, .ref a0), (1, .int i1), (2, .int v3), (3, .int i3_5)] → W p l e (kk_rm 2 0 0 43) s m ([.ref a0, .int i1] : List Value).toArray below meth c H locs 0 0 Q (F0 m 11 ls []) := by
    intro n5
    induction n5 with
    | zero => intro f_places_5 i3_5 h; exact kk_iter0 h
    | succ n5 ih5 =>
      intro f_places_5 i3_5 hq H locs ls hw hl
      obtain ⟨y5, hF1, hI1⟩ := kk_iterS hq
      have hF1 : L_X4_insert_11 N v3 f_places_5 i3_5 = some y5 := hF1
      unfold L_X4_insert_11 at hF1
      refine lv_iload_n hx hb dX4_insert_11 rfl (lv_at hl 3 rfl) ?_
      refine lv_iload_n hx hb dX4_insert_12 rfl (lv_at hl 2 rfl) ?_
      refine lv_icmp_le (tgt := 40) hx hb dX4_insert_13 (by decide) (fun c6 => ?_) (fun c6 => ?_)
      · have hF1 := (if_pos c6).symm.trans hF1
        have hy := Option.some.inj hF1
        subst hy
        have hz := Option.some.inj hI1
        subst hz
        exact hJ1 x_size f_places_5 v3 hF0 _ _ _ hw (lv_sub hl [0, 1, 2] rfl)
      · have hF1 := (if_neg c6).symm.trans hF1
        refine lv_aload_n hx hb dX4_insert_16 rfl (lv_at hl 0 rfl) ?_
        refine kk_get (T := TX4) F hw ui_X4_insert_X4 0 rfl rfl 0 (by decide) m_X4_insert_Cond_fieldLink_RX4_14_PerfectPew_KeyList_places_LPerfectPew_Row_ rfl dX4_insert_17 ?_
        refine lv_iload_n hx hb dX4_insert_20 rfl (lv_at hl 3 rfl) ?_
        refine lv_aload_n hx hb dX4_insert_21 rfl (lv_at hl 0 rfl) ?_
        refine kk_get (T := TX4) F hw ui_X4_insert_X4 0 rfl rfl 0 (by decide) m_X4_insert_Cond_fieldLink_RX4_14_PerfectPew_KeyList_places_LPerfectPew_Row_ rfl dX4_insert_22 ?_
        refine lv_iload_n hx hb dX4_insert_25 rfl (lv_at hl 3 rfl) ?_
        refine lv_iconst (v := 1) hx hb dX4_insert_26 (by decide) ?_
        refine lv_isub hx hb dX4_insert_27 ?_
        obtain ⟨v7, ev7, hF1⟩ := kk_bind hF1
        refine kk_callI 0 0 hw (kk_runN (As := [.int (i3_5 - 1)]) (rest := [.int i3_5, .ref a1]) F hw hl.1 (c_X6_get l G cI cJ ad a1 a2 120 f_places_5 (i3_5 - 1) N v7 ev7 H.size) gX4_insert_X6_get_n20 rfl nl_22 m_X4_insert_Cond_initialized_yX6_get_cls m_X4_insert_Cond_instanceMethod_yX6_get m_X4_insert_Cond_selects_RX6_yX6_get_yX6_get md_X6_get ⟨Nat.le_of_ble_eq_true rfl, Nat.le_of_ble_eq_true rfl⟩ ⟨Nat.le_of_ble_eq_true rfl, Nat.le_of_ble_eq_true rfl⟩ 1 6 rfl rfl rfl rfl (Nat.le_of_ble_eq_true rfl) dX4_insert_28) ⟨rfl, rfl⟩ [1, 2] (by decide) rfl rfl (fun H locs hw => ?_)
        have hw : kk_wd G A s.heap [(a0, .inr (4, [.ref a1, .int x_size])), (a1, .inr (6, [.ref a2])), (a2, .inl (cI, 120, .inl f_places_5))] H locs := hw
        obtain ⟨v8, ev8, hF1⟩ := kk_bind hF1
        refine kk_callV 0 0 hw (kk_runN (As := [.int i3_5, .int v7]) (rest := []) F hw hl.1 (c_X6_set l G cI cJ ad a1 a2 120 f_places_5 i3_5 v7 N v8 ev8 H.size) gX4_insert_X6_set_n31 rfl nl_24 m_X4_insert_Cond_initialized_yX6_set_cls m_X4_insert_Cond_instanceMethod_yX6_set m_X4_insert_Cond_selects_RX6_yX6_set_yX6_set md_X6_set ⟨Nat.le_of_ble_eq_true rfl, Nat.le_of_ble_eq_true rfl⟩ ⟨Nat.le_of_ble_eq_true rfl, Nat.le_of_ble_eq_true rfl⟩ 1 6 rfl rfl rfl rfl (Nat.le_of_ble_eq_true rfl) dX4_insert_31) ⟨rfl, rfl⟩ [1, 2] (by decide) rfl rfl (fun H locs hw => ?_)
        have hw : kk_wd G A s.heap [(a0, .inr (4, [.ref a1, .int x_size])), (a1, .inr (6, [.ref a2])), (a2, .inl (cI, 120, .inl v8))] H locs := hw
        refine lv_iinc (v := (i3_5 + (-1))) (lv' := [(3, .int (i3_5 + (-1))), (0, .ref a0), (1, .int i1), (2, .int v3)]) hx hb dX4_insert_34 hl (k := 3) rfl rfl (by decide) rfl (fun ls hl => ?_)
        refine lv_goto (tgt := 11) hx hb dX4_insert_37 (by decide) ?_
        have hy := Option.some.inj hF1
        subst hy
        exact ih5 v8 (i3_5 + (-1)) hI1 _ _ _ hw (lv_sub hl [1, 2, 3, 0] rfl)
  exact hL5 N f_places x_size hz5 _ _ _ hw (lv_sub hl [2, 3, 1, 0] rfl)
theorem ui_X4_delete_X4 : ∀ w ∈ u_ws RX4 TX4 2, w ∈ wsX4_delete := by decide +kernel
theorem m_X4_delete_Cond_fieldLink_RX4_24_PerfectPew_KeyList_size_I_ : Cond.fieldLink RX4 24 "PerfectPew$KeyList" "size" "I" ∈ wsX4_delete := by decide +kernel
theorem m_X4_delete_Cond_fieldLink_RX4_14_PerfectPew_KeyList_places_LPerfectPew_Row_ : Cond.fieldLink RX4 14 "PerfectPew$KeyList" "places" "LPerfectPew$Row;" ∈ wsX4_delete := by decide +kernel
theorem m_X4_delete_Cond_initialized_yX6_set_cls : Cond.initialized yX6_set.cls ∈ wsX4_delete := by decide +kernel
theorem m_X4_delete_Cond_instanceMethod_yX6_set : Cond.instanceMethod yX6_set ∈ wsX4_delete := by decide +kernel
theorem m_X4_delete_Cond_selects_RX6_yX6_set_yX6_set : Cond.selects RX6 yX6_set yX6_set ∈ wsX4_delete := by decide +kernel
theorem m_X4_delete_Cond_initialized_yX6_get_cls : Cond.initialized yX6_get.cls ∈ wsX4_delete := by decide +kernel
theorem m_X4_delete_Cond_instanceMethod_yX6_get : Cond.instanceMethod yX6_get ∈ wsX4_delete := by decide +kernel
theorem m_X4_delete_Cond_selects_RX6_yX6_get_yX6_get : Cond.selects RX6 yX6_get yX6_get ∈ wsX4_delete := by decide +kernel
set_option maxRecDepth 100000 in
set_option maxHeartbeats 4000000 in
theorem c_X4_delete (l : Launch) (G : va_G) (cI cJ : ClassId) (ad : Nat → Nat) (a0 a1 a2 : Nat) (x_size : Int32) (f_places : Nat → Int32) (i1 : Int32) (N : Nat) (x : (Int32 × (Nat → Int32))) (hF0 : F_X4_delete N x_size f_places i1 = some x) : kk_V l yX4_delete wsX4_delete 2 0 0 43 [.ref a0, .int i1] G cI cJ ad [(a0, .inr (4, [.ref a1, .int x_size])), (a1, .inr (6, [.ref a2])), (a2, .inl (cI, 120, .inl f_places))] [(a0, .inr (4, [.ref a1, .int x.1])), (a1, .inr (6, [.ref a2])), (a2, .inl (cI, 120, .inl x.2))] := by
  refine kk_ofV (cc := cX4_delete) (maxL := 3) (by decide) rfl (Nat.le_of_ble_eq_true rfl) ?_
  intro p e s m below meth c A Q ls H locs hx hb hml hown hts hE hw hl hret
  have F : kk_at p m c cX4_delete 3 s _ wsX4_delete RX4 G cI cJ ad A := ⟨⟨hx, hb, hml, hown, hts⟩, hE⟩
  have hl : lv_has ls 3 [(0, .ref a0), (1, .int i1)] := hl
  unfold F_X4_delete at hF0
  have hJ1 : ∀ (x_size_1 : Int32) (f_places_1 : Nat → Int32), J_X4_delete_40 N x_size_1 f_places_1 = some x → ∀ (H : Heap) (locs : List Loc) (ls : Array Slot), kk_wd G A s.heap [(a0, .inr (4, [.ref a1, .int x_size_1])), (a1, .inr (6, [.ref a2])), (a2, .inl (cI, 120, .inl f_places_1))] H locs → lv_has ls 3 [(0, .ref a0)] → W p l e (kk_rm 2 0 0 43) s m ([.ref a0, .int i1] : List Value).toArray below meth c H locs 0 0 Q (F0 m 40 ls []) := by
    intro x_size_1 f_places_1 hF0 H locs ls hw hl
    unfold J_X4_delete_40 at hF0
    refine lv_aload_n hx hb dX4_delete_40 rfl (lv_at hl 0 rfl) ?_
    refine lv_dup hx hb dX4_delete_41 rfl ?_
    refine kk_get (T := TX4) F hw ui_X4_delete_X4 0 rfl rfl 1 (by decide) m_X4_delete_Cond_fieldLink_RX4_24_PerfectPew_KeyList_size_I_ rfl dX4_delete_42 ?_
    refine lv_iconst (v := 1) hx hb dX4_delete_45 (by decide) ?_
    refine lv_isub hx hb dX4_delete_46 ?_
    refine kk_put F hw ui_X4_delete_X4 tyX4 tyX4_ok nmX4 0 rfl rfl 1 (by decide) m_X4_delete_Cond_fieldLink_RX4_24_PerfectPew_KeyList_size_I_ rfl rfl rfl (Nat.le_of_ble_eq_true rfl) dX4_delete_47 (fun H locs hw => ?_)
    have hw : kk_wd G A s.heap [(a0, .inr (4, [.ref a1, .int (x_size_1 - 1)])), (a1, .inr (6, [.ref a2])), (a2, .inl (cI, 120, .inl f_places_1))] H locs := hw
    have hy := Option.some.inj hF0
    subst hy
    exact hret dX4_delete_50 (by decide) (by decide) hw
  refine lv_aload_n hx hb dX4_delete_0 rfl (lv_at hl 0 rfl) ?_
  refine lv_iload_n hx hb dX4_delete_1 rfl (lv_at hl 1 rfl) ?_
  obtain ⟨v2, ev2, hF0⟩ := kk_bind hF0
  refine kk_callI 0 0 hw (kk_runV (As := [.int i1]) (rest := []) F hw hl.1 (c_X4_rankOf l G cI cJ ad a0 a1 a2 x_size f_places i1 N v2 ev2 H.size) gX4_delete_X4_rankOf rfl ⟨rfl, md_X4_rankOf⟩ ⟨Nat.le_of_ble_eq_true rfl, Nat.le_of_ble_eq_true rfl⟩ ⟨Nat.le_of_ble_eq_true rfl, Nat.le_of_ble_eq_true rfl⟩ 0 4 rfl rfl rfl rfl (Nat.le_of_ble_eq_true rfl) dX4_delete_2) ⟨rfl, rfl⟩ [0, 1, 2] (by decide) rfl rfl (fun H locs hw => ?_)
  have hw : kk_wd G A s.heap [(a0, .inr (4, [.ref a1, .int x_size])), (a1, .inr (6, [.ref a2])), (a2, .inl (cI, 120, .inl f_places))] H locs := hw
  refine lv_iconst (v := 1) hx hb dX4_delete_5 (by decide) ?_
  refine lv_iadd hx hb dX4_delete_6 ?_
  refine lv_istore_n (lv' := [(2, .int (v2 + 1)), (0, .ref a0), (1, .int i1)]) hx hb dX4_delete_7 rfl hl (by decide) rfl (fun ls hl => ?_)
  obtain ⟨z3, hz4, hF0⟩ := kk_bind hF0
  have hL4 : ∀ (n4 : Nat) (f_places_4 : Nat → Int32) (i2_4 : Int32), kk_iter (fun (σ : ((Nat → Int32) × Int32)) => L_X4_delete_8 N x_size σ.1 σ.2) n4 (f_places_4, i2_4) = some z3 → ∀ (H : Heap) (locs : List Loc) (ls : Array Slot), kk_wd G A s.heap [(a0, .inr (4, [.ref a1, .int x_size])), (a1, .inr (6, [.ref a2])), (a2, .inl (cI, 120, .inl f_places_4))] H locs → lv_has ls 3 [(0, .ref a0), (2, .int i2_4)] → W p l e (kk_rm 2 0 0 43) s m ([.ref a0, .int i1] : List Value).toArray below meth c H locs 0 0 Q (F0 m 8 ls []) := by
    intro n4
    induction n4 with
    | zero => intro f_places_4 i2_4 h; exact kk_iter0 h
    | succ n4 ih4 =>
      intro f_places_4 i2_4 hq H locs ls hw hl
      obtain ⟨y4, hF1, hI1⟩ := kk_iterS hq
      have hF1 : L_X4_delete_8 N x_size f_places_4 i2_4 = some y4 := hF1
      unfold L_X4_delete_8 at hF1
      refine lv_iload_n hx hb dX4_delete_8 rfl (lv_at hl 1 rfl) ?_
      refine lv_aload_n hx hb dX4_delete_9 rfl (lv_at hl 0 rfl) ?_
      refine kk_get (T := TX4) F hw ui_X4_delete_X4 0 rfl rfl 1 (by decide) m_X4_delete_Cond_fieldLink_RX4_24_PerfectPew_KeyList_size_I_ rfl dX4_delete_10 ?_
      refine lv_icmp_ge (tgt := 40) hx hb dX4_delete_13 (by decide) (fun c5 => ?_) (fun c5 => ?_)
      · have hF1 := (if_pos c5).symm.trans hF1
        have hy := Option.some.inj hF1
        subst hy
        have hz := Option.some.inj hI1
        subst hz
        exact hJ1 x_size f_places_4 hF0 _ _ _ hw (lv_sub hl [0] rfl)
      · have hF1 := (if_neg c5).symm.trans hF1
        refine lv_aload_n hx hb dX4_delete_16 rfl (lv_at hl 0 rfl) ?_
        refine kk_get (T := TX4) F hw ui_X4_delete_X4 0 rfl rfl 0 (by decide) m_X4_delete_Cond_fieldLink_RX4_14_PerfectPew_KeyList_places_LPerfectPew_Row_ rfl dX4_delete_17 ?_
        refine lv_iload_n hx hb dX4_delete_20 rfl (lv_at hl 1 rfl) ?_
        refine lv_iconst (v := 1) hx hb dX4_delete_21 (by decide) ?_
        refine lv_isub hx hb dX4_delete_22 ?_
        refine lv_aload_n hx hb dX4_delete_23 rfl (lv_at hl 0 rfl) ?_
        refine kk_get (T := TX4) F hw ui_X4_delete_X4 0 rfl rfl 0 (by decide) m_X4_delete_Cond_fieldLink_RX4_14_PerfectPew_KeyList_places_LPerfectPew_Row_ rfl dX4_delete_24 ?_
        refine lv_iload_n hx hb dX4_delete_27 rfl (lv_at hl 1 rfl) ?_
        obtain ⟨v6, ev6, hF1⟩ := kk_bind hF1
        refine kk_callI 0 0 hw (kk_runN (As := [.int i2_4]) (rest := [.int (i2_4 - 1), .ref a1]) F hw hl.1 (c_X6_get l G cI cJ ad a1 a2 120 f_places_4 i2_4 N v6 ev6 H.size) gX4_delete_X6_get_n20 rfl nl_22 m_X4_delete_Cond_initialized_yX6_get_cls m_X4_delete_Cond_instanceMethod_yX6_get m_X4_delete_Cond_selects_RX6_yX6_get_yX6_get md_X6_get ⟨Nat.le_of_ble_eq_true rfl, Nat.le_of_ble_eq_true rfl⟩ ⟨Nat.le_of_ble_eq_true rfl, Nat.le_of_ble_eq_true rfl⟩ 1 6 rfl rfl rfl rfl (Nat.le_of_ble_eq_true rfl) dX4_delete_28) ⟨rfl, rfl⟩ [1, 2] (by decide) rfl rfl (fun H locs hw => ?_)
        have hw : kk_wd G A s.heap [(a0, .inr (4, [.ref a1, .int x_size])), (a1, .inr (6, [.ref a2])), (a2, .inl (cI, 120, .inl f_places_4))] H locs := hw
        obtain ⟨v7, ev7, hF1⟩ := kk_bind hF1
        refine kk_callV 0 0 hw (kk_runN (As := [.int (i2_4 - 1), .int v6]) (rest := []) F hw hl.1 (c_X6_set l G cI cJ ad a1 a2 120 f_places_4 (i2_4 - 1) v6 N v7 ev7 H.size) gX4_delete_X6_set_n31 rfl nl_24 m_X4_delete_Cond_initialized_yX6_set_cls m_X4_delete_Cond_instanceMethod_yX6_set m_X4_delete_Cond_selects_RX6_yX6_set_yX6_set md_X6_set ⟨Nat.le_of_ble_eq_true rfl, Nat.le_of_ble_eq_true rfl⟩ ⟨Nat.le_of_ble_eq_true rfl, Nat.le_of_ble_eq_true rfl⟩ 1 6 rfl rfl rfl rfl (Nat.le_of_ble_eq_true rfl) dX4_delete_31) ⟨rfl, rfl⟩ [1, 2] (by decide) rfl rfl (fun H locs hw => ?_)
        have hw : kk_wd G A s.heap [(a0, .inr (4, [.ref a1, .int x_size])), (a1, .inr (6, [.ref a2])), (a2, .inl (cI, 120, .inl v7))] H locs := hw
        refine lv_iinc (v := (i2_4 + 1)) (lv' := [(2, .int (i2_4 + 1)), (0, .ref a0)]) hx hb dX4_delete_34 hl (k := 1) rfl rfl (by decide) rfl (fun ls hl => ?_)
        refine lv_goto (tgt := 8) hx hb dX4_delete_37 (by decide) ?_
        have hy := Option.some.inj hF1
        subst hy
        exact ih4 v7 (i2_4 + 1) hI1 _ _ _ hw (lv_sub hl [1, 0] rfl)
  exact hL4 N f_places (v2 + 1) hz4 _ _ _ hw (lv_sub hl [1, 0] rfl)
set_option maxRecDepth 100000 in
set_option maxHeartbeats 4000000 in
theorem c_J7_fill_d0a16 (l : Launch) (G : va_G) (cI cJ : ClassId) (ad : Nat → Nat) (a0 : Nat) (n_arr : Nat) (f_arr : Nat → Int64) (j1 : Int64) (N : Nat) (x : (Nat → Int64)) (hF0 : F_J7_fill_d0a16 N n_arr f_arr j1 = some x) : kk_V l yJ7_fill_d0a16 wsJ7_fill_d0a16 0 0 0 0 [.ref a0, .long j1] G cI cJ ad [(a0, .inl (cJ, n_arr, .inr (.inl f_arr)))] [(a0, .inl (cJ, n_arr, .inr (.inl x)))] := by
  refine kk_ofV (cc := cJ7_fill_d0a16) (maxL := 5) (by decide) rfl (Nat.le_of_ble_eq_true rfl) ?_
  intro p e s m below meth c A Q ls H locs hx hb hml hown hts hE hw hl hret
  have F : kk_at p m c cJ7_fill_d0a16 5 s _ wsJ7_fill_d0a16 RJ7 G cI cJ ad A := ⟨⟨hx, hb, hml, hown, hts⟩, hE⟩
  have hl : lv_has ls 5 [(0, .ref a0), (1, .long j1)] := hl
  unfold F_J7_fill_d0a16 at hF0
  have hJ1 : ∀ (f_arr_1 : Nat → Int64), J_J7_fill_d0a16_22 N f_arr_1 = some x → ∀ (H : Heap) (locs : List Loc) (ls : Array Slot), kk_wd G A s.heap [(a0, .inl (cJ, n_arr, .inr (.inl f_arr_1)))] H locs → lv_has ls 5 [] → W p l e (kk_rm 0 0 0 0) s m ([.ref a0, .long j1] : List Value).toArray below meth c H locs 0 0 Q (F0 m 22 ls []) := by
    intro f_arr_1 hF0 H locs ls hw hl
    unfold J_J7_fill_d0a16_22 at hF0
    have hy := Option.some.inj hF0
    subst hy
    exact hret dJ7_fill_d0a16_22 (by decide) (by decide) hw
  refine lv_iconst (v := 0) hx hb dJ7_fill_d0a16_0 (by decide) ?_
  refine lv_istore_n (lv' := [(3, .int 0), (0, .ref a0), (1, .long j1)]) hx hb dJ7_fill_d0a16_1 rfl hl (by decide) rfl (fun ls hl => ?_)
  refine lv_aload_n hx hb dJ7_fill_d0a16_2 rfl (lv_at hl 1 rfl) ?_
  refine kk_alenL F hw 0 rfl dJ7_fill_d0a16_3 ?_
  refine lv_istore (lv' := [(4, .int (nI n_arr)), (3, .int 0), (0, .ref a0), (1, .long j1)]) hx hb dJ7_fill_d0a16_4 hl (by decide) rfl (fun ls hl => ?_)
  obtain ⟨z2, hz3, hF0⟩ := kk_bind hF0
  have hL3 : ∀ (n3 : Nat) (f_arr_3 : Nat → Int64) (i3_3 : Int32), kk_iter (fun (σ : ((Nat → Int64) × Int32)) => L_J7_fill_d0a16_6 N n_arr j1 (nI n_arr) σ.1 σ.2) n3 (f_arr_3, i3_3) = some z2 → ∀ (H : Heap) (locs : List Loc) (ls : Array Slot), kk_wd G A s.heap [(a0, .inl (cJ, n_arr, .inr (.inl f_arr_3)))] H locs → lv_has ls 5 [(0, .ref a0), (1, .long j1), (3, .int i3_3), (4, .int (nI n_arr))] → W p l e (kk_rm 0 0 0 0) s m ([.ref a0, .long j1] : List Value).toArray below meth c H locs 0 0 Q (F0 m 6 ls []) := by
    intro n3
    induction n3 with
    | zero => intro f_arr_3 i3_3 h; exact kk_iter0 h
    | succ n3 ih3 =>
      intro f_arr_3 i3_3 hq H locs ls hw hl
      obtain ⟨y3, hF1, hI1⟩ := kk_iterS hq
      have hF1 : L_J7_fill_d0a16_6 N n_arr j1 (nI n_arr) f_arr_3 i3_3 = some y3 := hF1
      unfold L_J7_fill_d0a16_6 at hF1
      refine lv_iload_n hx hb dJ7_fill_d0a16_6 rfl (lv_at hl 2 rfl) ?_
      refine lv_iload hx hb dJ7_fill_d0a16_7 (lv_at hl 3 rfl) ?_
      refine lv_icmp_ge (tgt := 22) hx hb dJ7_fill_d0a16_9 (by decide) (fun c4 => ?_) (fun c4 => ?_)
      · have hF1 := (if_pos c4).symm.trans hF1
        have hy := Option.some.inj hF1
        subst hy
        have hz := Option.some.inj hI1
        subst hz
        exact hJ1 f_arr_3 hF0 _ _ _ hw (lv_sub hl [] rfl)
      · have hF1 := (if_neg c4).symm.trans hF1
        refine lv_aload_n hx hb dJ7_fill_d0a16_12 rfl (lv_at hl 0 rfl) ?_
        refine lv_iload_n hx hb dJ7_fill_d0a16_13 rfl (lv_at hl 2 rfl) ?_
        refine lv_lload_n hx hb dJ7_fill_d0a16_14 rfl (lv_at hl 1 rfl) ?_
        obtain ⟨w5, ew5, hF1⟩ := kk_bind hF1
        refine kk_last F hw 0 rfl ew5 dJ7_fill_d0a16_15 (fun H locs hw => ?_)
        have hw : kk_wd G A s.heap [(a0, .inl (cJ, n_arr, .inr (.inl w5)))] H locs := hw
        refine lv_iinc (v := (i3_3 + 1)) (lv' := [(3, .int (i3_3 + 1)), (0, .ref a0), (1, .long j1), (4, .int (nI n_arr))]) hx hb dJ7_fill_d0a16_16 hl (k := 2) rfl rfl (by decide) rfl (fun ls hl => ?_)
        refine lv_goto (tgt := 6) hx hb dJ7_fill_d0a16_19 (by decide) ?_
        have hy := Option.some.inj hF1
        subst hy
        exact ih3 w5 (i3_3 + 1) hI1 _ _ _ hw (lv_sub hl [1, 2, 0, 3] rfl)
  exact hL3 N f_arr 0 hz3 _ _ _ hw (lv_sub hl [2, 3, 1, 0] rfl)
theorem m_X5_greatest_Cond_methodLink_RX5_49_Lib_Math_max_name : Cond.methodLink RX5 49 Lib.Math.max.name ∈ wsX5_greatest := by decide +kernel
theorem m_X5_greatest_Cond_static_Lib_Math_max_name : Cond.static Lib.Math.max.name ∈ wsX5_greatest := by decide +kernel
theorem m_X5_greatest_Cond_initialized_java_lang_Math_ : Cond.initialized "java/lang/Math" ∈ wsX5_greatest := by decide +kernel
theorem m_X5_greatest_Cond_code_Lib_Math_max_name_Lib_Math_max_code_2_some_int_ : Cond.code Lib.Math.max.name Lib.Math.max.code 2 (some .int) ∈ wsX5_greatest := by decide +kernel
theorem m_X5_greatest_Cond_initialized_yX6_get_cls : Cond.initialized yX6_get.cls ∈ wsX5_greatest := by decide +kernel
theorem m_X5_greatest_Cond_instanceMethod_yX6_get : Cond.instanceMethod yX6_get ∈ wsX5_greatest := by decide +kernel
theorem m_X5_greatest_Cond_selects_RX6_yX6_get_yX6_get : Cond.selects RX6 yX6_get yX6_get ∈ wsX5_greatest := by decide +kernel
set_option maxRecDepth 100000 in
set_option maxHeartbeats 4000000 in
theorem c_X5_greatest (l : Launch) (G : va_G) (cI cJ : ClassId) (ad : Nat → Nat) (a0 a1 : Nat) (n_cells : Nat) (f_cells : Nat → Int32) (i1 : Int32) (N : Nat) (x : Int32) (hF0 : F_X5_greatest N n_cells f_cells i1 = some x) : kk_I l yX5_greatest wsX5_greatest 1 0 0 21 [.ref a0, .int i1] G cI cJ ad [(a0, .inr (6, [.ref a1])), (a1, .inl (cI, n_cells, .inl f_cells))] x [(a0, .inr (6, [.ref a1])), (a1, .inl (cI, n_cells, .inl f_cells))] := by
  refine kk_ofI (cc := cX5_greatest) (maxL := 4) (by decide) rfl (Nat.le_of_ble_eq_true rfl) ?_
  intro p e s m below meth c A Q ls H locs hx hb hml hown hts hE hw hl hret
  have F : kk_at p m c cX5_greatest 4 s _ wsX5_greatest RX5 G cI cJ ad A := ⟨⟨hx, hb, hml, hown, hts⟩, hE⟩
  have hl : lv_has ls 4 [(0, .ref a0), (1, .int i1)] := hl
  unfold F_X5_greatest at hF0
  have hJ1 : ∀ (i2_1 : Int32), J_X5_greatest_25 N i2_1 = some x → ∀ (H : Heap) (locs : List Loc) (ls : Array Slot), kk_wd G A s.heap [(a0, .inr (6, [.ref a1])), (a1, .inl (cI, n_cells, .inl f_cells))] H locs → lv_has ls 4 [(2, .int i2_1)] → W p l e (kk_rm 1 0 0 21) s m ([.ref a0, .int i1] : List Value).toArray below meth c H locs 0 0 Q (F0 m 25 ls []) := by
    intro i2_1 hF0 H locs ls hw hl
    unfold J_X5_greatest_25 at hF0
    refine lv_iload_n hx hb dX5_greatest_25 rfl (lv_at hl 0 rfl) ?_
    have hy := Option.some.inj hF0
    subst hy
    exact hret dX5_greatest_26 (by decide) (by decide) hw
  refine lv_iconst (v := 0) hx hb dX5_greatest_0 (by decide) ?_
  refine lv_istore_n (lv' := [(2, .int 0), (0, .ref a0), (1, .int i1)]) hx hb dX5_greatest_1 rfl hl (by decide) rfl (fun ls hl => ?_)
  refine lv_iconst (v := 0) hx hb dX5_greatest_2 (by decide) ?_
  refine lv_istore_n (lv' := [(3, .int 0), (2, .int 0), (0, .ref a0), (1, .int i1)]) hx hb dX5_greatest_3 rfl hl (by decide) rfl (fun ls hl => ?_)
  obtain ⟨z2, hz3, hF0⟩ := kk_bind hF0
  have hL3 : ∀ (n3 : Nat) (i2_3 : Int32) (i3_3 : Int32), kk_iter (fun (σ : (Int32 × Int32)) => L_X5_greatest_4 N n_cells f_cells i1 σ.1 σ.2) n3 (i2_3, i3_3) = some z2 → ∀ (H : Heap) (locs : List Loc) (ls : Array Slot), kk_wd G A s.heap [(a0, .inr (6, [.ref a1])), (a1, .inl (cI, n_cells, .inl f_cells))] H locs → lv_has ls 4 [(0, .ref a0), (1, .int i1), (2, .int i2_3), (3, .int i3_3)] → W p l e (kk_rm 1 0 0 21) s m ([.ref a0, .int i1] : List Value).toArray below meth c H locs 0 0 Q (F0 m 4 ls []) := by
    intro n3
    induction n3 with
    | zero => intro i2_3 i3_3 h; exact kk_iter0 h
    | succ n3 ih3 =>
      intro i2_3 i3_3 hq H locs ls hw hl
      obtain ⟨y3, hF1, hI1⟩ := kk_iterS hq
      have hF1 : L_X5_greatest_4 N n_cells f_cells i1 i2_3 i3_3 = some y3 := hF1
      unfold L_X5_greatest_4 at hF1
      refine lv_iload_n hx hb dX5_greatest_4 rfl (lv_at hl 3 rfl) ?_
      refine lv_iload_n hx hb dX5_greatest_5 rfl (lv_at hl 1 rfl) ?_
      refine lv_icmp_ge (tgt := 25) hx hb dX5_greatest_6 (by decide) (fun c4 => ?_) (fun c4 => ?_)
      · have hF1 := (if_pos c4).symm.trans hF1
        have hy := Option.some.inj hF1
        subst hy
        have hz := Option.some.inj hI1
        subst hz
        exact hJ1 i2_3 hF0 _ _ _ hw (lv_sub hl [2] rfl)
      · have hF1 := (if_neg c4).symm.trans hF1
        refine lv_iload_n hx hb dX5_greatest_9 rfl (lv_at hl 2 rfl) ?_
        refine lv_aload_n hx hb dX5_greatest_10 rfl (lv_at hl 0 rfl) ?_
        refine lv_iload_n hx hb dX5_greatest_11 rfl (lv_at hl 3 rfl) ?_
        obtain ⟨v5, ev5, hF1⟩ := kk_bind hF1
        refine kk_callI 0 0 hw (kk_runN (As := [.int i3_3]) (rest := [.int i2_3]) F hw hl.1 (c_X6_get l G cI cJ ad a0 a1 n_cells f_cells i3_3 N v5 ev5 H.size) gX5_greatest_X6_get_n40 rfl nl_63 m_X5_greatest_Cond_initialized_yX6_get_cls m_X5_greatest_Cond_instanceMethod_yX6_get m_X5_greatest_Cond_selects_RX6_yX6_get_yX6_get md_X6_get ⟨Nat.le_of_ble_eq_true rfl, Nat.le_of_ble_eq_true rfl⟩ ⟨Nat.le_of_ble_eq_true rfl, Nat.le_of_ble_eq_true rfl⟩ 0 6 rfl rfl rfl rfl (Nat.le_of_ble_eq_true rfl) dX5_greatest_12) ⟨rfl, rfl⟩ [0, 1] (by decide) rfl rfl (fun H locs hw => ?_)
        have hw : kk_wd G A s.heap [(a0, .inr (6, [.ref a1])), (a1, .inl (cI, n_cells, .inl f_cells))] H locs := hw
        refine kk_max F hl.1 m_X5_greatest_Cond_methodLink_RX5_49_Lib_Math_max_name m_X5_greatest_Cond_static_Lib_Math_max_name m_X5_greatest_Cond_initialized_java_lang_Math_ m_X5_greatest_Cond_code_Lib_Math_max_name_Lib_Math_max_code_2_some_int_ (by decide) (by decide) ⟨by decide, by decide⟩ dX5_greatest_15 ?_
        refine lv_istore_n (lv' := [(2, .int (if i2_3 < v5 then v5 else i2_3)), (0, .ref a0), (1, .int i1), (3, .int i3_3)]) hx hb dX5_greatest_18 rfl hl (by decide) rfl (fun ls hl => ?_)
        refine lv_iinc (v := (i3_3 + 1)) (lv' := [(3, .int (i3_3 + 1)), (2, .int (if i2_3 < v5 then v5 else i2_3)), (0, .ref a0), (1, .int i1)]) hx hb dX5_greatest_19 hl (k := 3) rfl rfl (by decide) rfl (fun ls hl => ?_)
        refine lv_goto (tgt := 4) hx hb dX5_greatest_22 (by decide) ?_
        have hy := Option.some.inj hF1
        subst hy
        exact ih3 (if i2_3 < v5 then v5 else i2_3) (i3_3 + 1) hI1 _ _ _ hw (lv_sub hl [2, 3, 1, 0] rfl)
  exact hL3 N 0 0 hz3 _ _ _ hw (lv_sub hl [2, 3, 1, 0] rfl)
set_option maxRecDepth 100000 in
set_option maxHeartbeats 4000000 in
theorem c_X5_widthFor (l : Launch) (G : va_G) (cI cJ : ClassId) (ad : Nat → Nat) (i0 : Int32) (N : Nat) (x : Int32) (hF0 : F_X5_widthFor N i0 = some x) : kk_I l yX5_widthFor wsX5_widthFor 0 0 0 0 [.int i0] G cI cJ ad [] x [] := by
  refine kk_ofI (cc := cX5_widthFor) (maxL := 2) (by decide) rfl (Nat.le_of_ble_eq_true rfl) ?_
  intro p e s m below meth c A Q ls H locs hx hb hml hown hts hE hw hl hret
  have F : kk_at p m c cX5_widthFor 2 s _ wsX5_widthFor RX5 G cI cJ ad A := ⟨⟨hx, hb, hml, hown, hts⟩, hE⟩
  have hl : lv_has ls 2 [(0, .int i0)] := hl
  unfold F_X5_widthFor at hF0
  have hJ1 : ∀ (i1_1 : Int32), J_X5_widthFor_20 N i1_1 = some x → ∀ (H : Heap) (locs : List Loc) (ls : Array Slot), kk_wd G A s.heap [] H locs → lv_has ls 2 [(1, .int i1_1)] → W p l e (kk_rm 0 0 0 0) s m ([.int i0] : List Value).toArray below meth c H locs 0 0 Q (F0 m 20 ls []) := by
    intro i1_1 hF0 H locs ls hw hl
    unfold J_X5_widthFor_20 at hF0
    refine lv_iload_n hx hb dX5_widthFor_20 rfl (lv_at hl 0 rfl) ?_
    have hy := Option.some.inj hF0
    subst hy
    exact hret dX5_widthFor_21 (by decide) (by decide) hw
  refine lv_iconst (v := 1) hx hb dX5_widthFor_0 (by decide) ?_
  refine lv_istore_n (lv' := [(1, .int 1), (0, .int i0)]) hx hb dX5_widthFor_1 rfl hl (by decide) rfl (fun ls hl => ?_)
  obtain ⟨z2, hz3, hF0⟩ := kk_bind hF0
  have hL3 : ∀ (n3 : Nat) (i1_3 : Int32), kk_iter (fun (σ : Int32) => L_X5_widthFor_2 N i0 σ) n3 i1_3 = some z2 → ∀ (H : Heap) (locs : List Loc) (ls : Array Slot), kk_wd G A s.heap [] H locs → lv_has ls 2 [(0, .int i0), (1, .int i1_3)] → W p l e (kk_rm 0 0 0 0) s m ([.int i0] : List Value).toArray below meth c H locs 0 0 Q (F0 m 2 ls []) := by
    intro n3
    induction n3 with
    | zero => intro i1_3 h; exact kk_iter0 h
    | succ n3 ih3 =>
      intro i1_3 hq H locs ls hw hl
      obtain ⟨y3, hF1, hI1⟩ := kk_iterS hq
      have hF1 : L_X5_widthFor_2 N i0 i1_3 = some y3 := hF1
      unfold L_X5_widthFor_2 at hF1
      refine lv_iload_n hx hb dX5_widthFor_2 rfl (lv_at hl 1 rfl) ?_
      refine lv_bipush (v := 9) hx hb dX5_widthFor_3 (by decide) ?_
      refine lv_icmp_ge (tgt := 20) hx hb dX5_widthFor_5 (by decide) (fun c4 => ?_) (fun c4 => ?_)
      · have hF1 := (if_pos c4).symm.trans hF1
        have hy := Option.some.inj hF1
        subst hy
        have hz := Option.some.inj hI1
        subst hz
        exact hJ1 i1_3 hF0 _ _ _ hw (lv_sub hl [1] rfl)
      · have hF1 := (if_neg c4).symm.trans hF1
        refine lv_iload_n hx hb dX5_widthFor_8 rfl (lv_at hl 0 rfl) ?_
        refine lv_iload_n hx hb dX5_widthFor_9 rfl (lv_at hl 1 rfl) ?_
        refine lv_ishr hx hb dX5_widthFor_10 ?_
        refine lv_if_le (tgt := 20) hx hb dX5_widthFor_11 (by decide) (fun c5 => ?_) (fun c5 => ?_)
        · have hF1 := (if_pos c5).symm.trans hF1
          have hy := Option.some.inj hF1
          subst hy
          have hz := Option.some.inj hI1
          subst hz
          exact hJ1 i1_3 hF0 _ _ _ hw (lv_sub hl [1] rfl)
        · have hF1 := (if_neg c5).symm.trans hF1
          refine lv_iinc (v := (i1_3 + 1)) (lv' := [(1, .int (i1_3 + 1)), (0, .int i0)]) hx hb dX5_widthFor_14 hl (k := 1) rfl rfl (by decide) rfl (fun ls hl => ?_)
          refine lv_goto (tgt := 2) hx hb dX5_widthFor_17 (by decide) ?_
          have hy := Option.some.inj hF1
          subst hy
          exact ih3 (i1_3 + 1) hI1 _ _ _ hw (lv_sub hl [1, 0] rfl)
  exact hL3 N 1 hz3 _ _ _ hw (lv_sub hl [1, 0] rfl)
theorem ui_X5_join_X5 : ∀ w ∈ u_ws RX5 TX5 3, w ∈ wsX5_join := by decide +kernel
theorem m_X5_join_Cond_fieldLink_RX5_9_PerfectPew_Packer_words_J_ : Cond.fieldLink RX5 9 "PerfectPew$Packer" "words" "[J" ∈ wsX5_join := by decide +kernel
set_option maxRecDepth 100000 in
set_option maxHeartbeats 4000000 in
theorem c_X5_join (l : Launch) (G : va_G) (cI cJ : ClassId) (ad : Nat → Nat) (a0 a1 : Nat) (x_bitsEach : Int32) (x_wordCount : Int32) (f_words : Nat → Int64) (i1 : Int32) (j2 : Int64) (N : Nat) (x : (Nat → Int64)) (hF0 : F_X5_join N f_words i1 j2 = some x) : kk_V l yX5_join wsX5_join 0 0 0 0 [.ref a0, .int i1, .long j2] G cI cJ ad [(a0, .inr (5, [.ref a1, .int x_bitsEach, .int x_wordCount])), (a1, .inl (cJ, 17, .inr (.inl f_words)))] [(a0, .inr (5, [.ref a1, .int x_bitsEach, .int x_wordCount])), (a1, .inl (cJ, 17, .inr (.inl x)))] := by
  refine kk_ofV (cc := cX5_join) (maxL := 4) (by decide) rfl (Nat.le_of_ble_eq_true rfl) ?_
  intro p e s m below meth c A Q ls H locs hx hb hml hown hts hE hw hl hret
  have F : kk_at p m c cX5_join 4 s _ wsX5_join RX5 G cI cJ ad A := ⟨⟨hx, hb, hml, hown, hts⟩, hE⟩
  have hl : lv_has ls 4 [(0, .ref a0), (1, .int i1), (2, .long j2)] := hl
  unfold F_X5_join at hF0
  have hJ1 : ∀ (f_words_1 : Nat → Int64), J_X5_join_23 N f_words_1 = some x → ∀ (H : Heap) (locs : List Loc) (ls : Array Slot), kk_wd G A s.heap [(a0, .inr (5, [.ref a1, .int x_bitsEach, .int x_wordCount])), (a1, .inl (cJ, 17, .inr (.inl f_words_1)))] H locs → lv_has ls 4 [] → W p l e (kk_rm 0 0 0 0) s m ([.ref a0, .int i1, .long j2] : List Value).toArray below meth c H locs 0 0 Q (F0 m 23 ls []) := by
    intro f_words_1 hF0 H locs ls hw hl
    unfold J_X5_join_23 at hF0
    have hy := Option.some.inj hF0
    subst hy
    exact hret dX5_join_23 (by decide) (by decide) hw
  refine lv_iload_n hx hb dX5_join_0 rfl (lv_at hl 1 rfl) ?_
  refine lv_if_lt (tgt := 23) hx hb dX5_join_1 (by decide) (fun c2 => ?_) (fun c2 => ?_)
  · have hF0 := (if_pos c2).symm.trans hF0
    exact hJ1 f_words hF0 _ _ _ hw (lv_sub hl [] rfl)
  · have hF0 := (if_neg c2).symm.trans hF0
    refine lv_iload_n hx hb dX5_join_4 rfl (lv_at hl 1 rfl) ?_
    refine lv_aload_n hx hb dX5_join_5 rfl (lv_at hl 0 rfl) ?_
    refine kk_get (T := TX5) F hw ui_X5_join_X5 0 rfl rfl 0 (by decide) m_X5_join_Cond_fieldLink_RX5_9_PerfectPew_Packer_words_J_ rfl dX5_join_6 ?_
    refine kk_alenL F hw 1 rfl dX5_join_9 ?_
    refine lv_icmp_ge (tgt := 23) hx hb dX5_join_10 (by decide) (fun c3 => ?_) (fun c3 => ?_)
    · have hF0 := (if_pos c3).symm.trans hF0
      exact hJ1 f_words hF0 _ _ _ hw (lv_sub hl [] rfl)
    · have hF0 := (if_neg c3).symm.trans hF0
      refine lv_aload_n hx hb dX5_join_13 rfl (lv_at hl 0 rfl) ?_
      refine kk_get (T := TX5) F hw ui_X5_join_X5 0 rfl rfl 0 (by decide) m_X5_join_Cond_fieldLink_RX5_9_PerfectPew_Packer_words_J_ rfl dX5_join_14 ?_
      refine lv_iload_n hx hb dX5_join_17 rfl (lv_at hl 1 rfl) ?_
      refine lv_dup2_11 hx hb dX5_join_18 rfl rfl ?_
      obtain ⟨v4, ev4, hF0⟩ := kk_bind hF0
      refine kk_lald F hw 1 rfl ev4 dX5_join_19 ?_
      refine lv_lload_n hx hb dX5_join_20 rfl (lv_at hl 2 rfl) ?_
      refine lv_lor hx hb dX5_join_21 ?_
      obtain ⟨w5, ew5, hF0⟩ := kk_bind hF0
      refine kk_last F hw 1 rfl ew5 dX5_join_22 (fun H locs hw => ?_)
      have hw : kk_wd G A s.heap [(a0, .inr (5, [.ref a1, .int x_bitsEach, .int x_wordCount])), (a1, .inl (cJ, 17, .inr (.inl w5)))] H locs := hw
      exact hJ1 w5 hF0 _ _ _ hw (lv_sub hl [] rfl)
theorem ui_X5_write_X5 : ∀ w ∈ u_ws RX5 TX5 3, w ∈ wsX5_write := by decide +kernel
theorem m_X5_write_Cond_fieldLink_RX5_29_PerfectPew_Packer_bitsEach_I_ : Cond.fieldLink RX5 29 "PerfectPew$Packer" "bitsEach" "I" ∈ wsX5_write := by decide +kernel
set_option maxRecDepth 100000 in
set_option maxHeartbeats 4000000 in
theorem c_X5_write (l : Launch) (G : va_G) (cI cJ : ClassId) (ad : Nat → Nat) (a0 a1 : Nat) (x_bitsEach : Int32) (x_wordCount : Int32) (f_words : Nat → Int64) (i1 : Int32) (j2 : Int64) (N : Nat) (x : (Nat → Int64)) (hF0 : F_X5_write N x_bitsEach f_words i1 j2 = some x) : kk_V l yX5_write wsX5_write 1 0 0 23 [.ref a0, .int i1, .long j2] G cI cJ ad [(a0, .inr (5, [.ref a1, .int x_bitsEach, .int x_wordCount])), (a1, .inl (cJ, 17, .inr (.inl f_words)))] [(a0, .inr (5, [.ref a1, .int x_bitsEach, .int x_wordCount])), (a1, .inl (cJ, 17, .inr (.inl x)))] := by
  refine kk_ofV (cc := cX5_write) (maxL := 6) (by decide) rfl (Nat.le_of_ble_eq_true rfl) ?_
  intro p e s m below meth c A Q ls H locs hx hb hml hown hts hE hw hl hret
  have F : kk_at p m c cX5_write 6 s _ wsX5_write RX5 G cI cJ ad A := ⟨⟨hx, hb, hml, hown, hts⟩, hE⟩
  have hl : lv_has ls 6 [(0, .ref a0), (1, .int i1), (2, .long j2)] := hl
  unfold F_X5_write at hF0
  have hJ1 : ∀ (f_words_1 : Nat → Int64), J_X5_write_49 N f_words_1 = some x → ∀ (H : Heap) (locs : List Loc) (ls : Array Slot), kk_wd G A s.heap [(a0, .inr (5, [.ref a1, .int x_bitsEach, .int x_wordCount])), (a1, .inl (cJ, 17, .inr (.inl f_words_1)))] H locs → lv_has ls 6 [] → W p l e (kk_rm 1 0 0 23) s m ([.ref a0, .int i1, .long j2] : List Value).toArray below meth c H locs 0 0 Q (F0 m 49 ls []) := by
    intro f_words_1 hF0 H locs ls hw hl
    unfold J_X5_write_49 at hF0
    have hy := Option.some.inj hF0
    subst hy
    exact hret dX5_write_49 (by decide) (by decide) hw
  refine lv_iload_n hx hb dX5_write_0 rfl (lv_at hl 1 rfl) ?_
  refine lv_bipush (v := 64) hx hb dX5_write_1 (by decide) ?_
  refine lv_idiv hx hb dX5_write_3 (by decide) ?_
  refine lv_istore (lv' := [(4, .int (kk_div i1 64)), (0, .ref a0), (1, .int i1), (2, .long j2)]) hx hb dX5_write_4 hl (by decide) rfl (fun ls hl => ?_)
  refine lv_iload_n hx hb dX5_write_6 rfl (lv_at hl 2 rfl) ?_
  refine lv_bipush (v := 64) hx hb dX5_write_7 (by decide) ?_
  refine lv_irem hx hb dX5_write_9 (by decide) ?_
  refine lv_istore (lv' := [(5, .int (kk_rem i1 64)), (4, .int (kk_div i1 64)), (0, .ref a0), (1, .int i1), (2, .long j2)]) hx hb dX5_write_10 hl (by decide) rfl (fun ls hl => ?_)
  refine lv_aload_n hx hb dX5_write_12 rfl (lv_at hl 2 rfl) ?_
  refine lv_iload hx hb dX5_write_13 (lv_at hl 1 rfl) ?_
  refine lv_lload_n hx hb dX5_write_15 rfl (lv_at hl 4 rfl) ?_
  refine lv_iload hx hb dX5_write_16 (lv_at hl 0 rfl) ?_
  refine lv_lshl hx hb dX5_write_18 rfl ?_
  obtain ⟨v2, ev2, hF0⟩ := kk_bind hF0
  refine kk_callV 0 0 hw (kk_runV (As := [.int (kk_div i1 64), .long (j2 <<< (Int32.toInt64 (kk_rem i1 64) &&& 63))]) (rest := []) F hw hl.1 (c_X5_join l G cI cJ ad a0 a1 x_bitsEach x_wordCount f_words (kk_div i1 64) (j2 <<< (Int32.toInt64 (kk_rem i1 64) &&& 63)) N v2 ev2 H.size) gX5_write_X5_join rfl ⟨rfl, md_X5_join⟩ ⟨Nat.le_of_ble_eq_true rfl, Nat.le_of_ble_eq_true rfl⟩ ⟨Nat.le_of_ble_eq_true rfl, Nat.le_of_ble_eq_true rfl⟩ 0 5 rfl rfl rfl rfl (Nat.le_of_ble_eq_true rfl) dX5_write_19) ⟨rfl, rfl⟩ [0, 1] (by decide) rfl rfl (fun H locs hw => ?_)
  have hw : kk_wd G A s.heap [(a0, .inr (5, [.ref a1, .int x_bitsEach, .int x_wordCount])), (a1, .inl (cJ, 17, .inr (.inl v2)))] H locs := hw
  refine lv_iload hx hb dX5_write_22 (lv_at hl 0 rfl) ?_
  refine lv_aload_n hx hb dX5_write_24 rfl (lv_at hl 2 rfl) ?_
  refine kk_get (T := TX5) F hw ui_X5_write_X5 0 rfl rfl 1 (by decide) m_X5_write_Cond_fieldLink_RX5_29_PerfectPew_Packer_bitsEach_I_ rfl dX5_write_25 ?_
  refine lv_iadd hx hb dX5_write_28 ?_
  refine lv_bipush (v := 64) hx hb dX5_write_29 (by decide) ?_
  refine lv_icmp_le (tgt := 49) hx hb dX5_write_31 (by decide) (fun c3 => ?_) (fun c3 => ?_)
  · have hF0 := (if_pos c3).symm.trans hF0
    exact hJ1 v2 hF0 _ _ _ hw (lv_sub hl [] rfl)
  · have hF0 := (if_neg c3).symm.trans hF0
    refine lv_aload_n hx hb dX5_write_34 rfl (lv_at hl 2 rfl) ?_
    refine lv_iload hx hb dX5_write_35 (lv_at hl 1 rfl) ?_
    refine lv_iconst (v := 1) hx hb dX5_write_37 (by decide) ?_
    refine lv_iadd hx hb dX5_write_38 ?_
    refine lv_lload_n hx hb dX5_write_39 rfl (lv_at hl 4 rfl) ?_
    refine lv_bipush (v := 64) hx hb dX5_write_40 (by decide) ?_
    refine lv_iload hx hb dX5_write_42 (lv_at hl 0 rfl) ?_
    refine lv_isub hx hb dX5_write_44 ?_
    refine lv_lushr hx hb dX5_write_45 rfl ?_
    obtain ⟨v4, ev4, hF0⟩ := kk_bind hF0
    refine kk_callV 0 0 hw (kk_runV (As := [.int ((kk_div i1 64) + 1), .long (UInt64.toInt64 (Int64.toUInt64 j2 >>> (Int64.toUInt64 (Int32.toInt64 (64 - (kk_rem i1 64))) &&& Int64.toUInt64 63)))]) (rest := []) F hw hl.1 (c_X5_join l G cI cJ ad a0 a1 x_bitsEach x_wordCount v2 ((kk_div i1 64) + 1) (UInt64.toInt64 (Int64.toUInt64 j2 >>> (Int64.toUInt64 (Int32.toInt64 (64 - (kk_rem i1 64))) &&& Int64.toUInt64 63))) N v4 ev4 H.size) gX5_write_X5_join rfl ⟨rfl, md_X5_join⟩ ⟨Nat.le_of_ble_eq_true rfl, Nat.le_of_ble_eq_true rfl⟩ ⟨Nat.le_of_ble_eq_true rfl, Nat.le_of_ble_eq_true rfl⟩ 0 5 rfl rfl rfl rfl (Nat.le_of_ble_eq_true rfl) dX5_write_46) ⟨rfl, rfl⟩ [0, 1] (by decide) rfl rfl (fun H locs hw => ?_)
    have hw : kk_wd G A s.heap [(a0, .inr (5, [.ref a1, .int x_bitsEach, .int x_wordCount])), (a1, .inl (cJ, 17, .inr (.inl v4)))] H locs := hw
    exact hJ1 v4 hF0 _ _ _ hw (lv_sub hl [] rfl)
theorem ui_X5_pack_X5 : ∀ w ∈ u_ws RX5 TX5 3, w ∈ wsX5_pack := by decide +kernel
theorem m_X5_pack_Cond_fieldLink_RX5_9_PerfectPew_Packer_words_J_ : Cond.fieldLink RX5 9 "PerfectPew$Packer" "words" "[J" ∈ wsX5_pack := by decide +kernel
theorem m_X5_pack_Cond_fieldLink_RX5_29_PerfectPew_Packer_bitsEach_I_ : Cond.fieldLink RX5 29 "PerfectPew$Packer" "bitsEach" "I" ∈ wsX5_pack := by decide +kernel
theorem m_X5_pack_Cond_fieldLink_RX5_37_PerfectPew_Packer_wordCount_I_ : Cond.fieldLink RX5 37 "PerfectPew$Packer" "wordCount" "I" ∈ wsX5_pack := by decide +kernel
theorem m_X5_pack_Cond_initialized_yX6_get_cls : Cond.initialized yX6_get.cls ∈ wsX5_pack := by decide +kernel
theorem m_X5_pack_Cond_instanceMethod_yX6_get : Cond.instanceMethod yX6_get ∈ wsX5_pack := by decide +kernel
theorem m_X5_pack_Cond_selects_RX6_yX6_get_yX6_get : Cond.selects RX6 yX6_get yX6_get ∈ wsX5_pack := by decide +kernel
theorem m_X5_pack_Cond_initialized_yX7_dividedUp_cls : Cond.initialized yX7_dividedUp.cls ∈ wsX5_pack := by decide +kernel
theorem m_X5_pack_Cond_static_yX7_dividedUp : Cond.static yX7_dividedUp ∈ wsX5_pack := by decide +kernel
set_option maxRecDepth 100000 in
set_option maxHeartbeats 4000000 in
theorem c_X5_pack (l : Launch) (G : va_G) (cI cJ : ClassId) (ad : Nat → Nat) (a0 a1 b0 b1 : Nat) (x_bitsEach : Int32) (x_wordCount : Int32) (f_words : Nat → Int64) (q_n_cells : Nat) (q_f_cells : Nat → Int32) (i2 : Int32) (N : Nat) (x : (Int32 × Int32 × (Nat → Int64))) (hF0 : F_X5_pack N x_bitsEach x_wordCount f_words q_n_cells q_f_cells i2 = some x) : kk_V l yX5_pack wsX5_pack 2 0 0 48 [.ref a0, .ref b0, .int i2] G cI cJ ad [(a0, .inr (5, [.ref a1, .int x_bitsEach, .int x_wordCount])), (a1, .inl (cJ, 17, .inr (.inl f_words))), (b0, .inr (6, [.ref b1])), (b1, .inl (cI, q_n_cells, .inl q_f_cells))] [(a0, .inr (5, [.ref a1, .int x.1, .int x.2.1])), (a1, .inl (cJ, 17, .inr (.inl x.2.2))), (b0, .inr (6, [.ref b1])), (b1, .inl (cI, q_n_cells, .inl q_f_cells))] := by
  refine kk_ofV (cc := cX5_pack) (maxL := 4) (by decide) rfl (Nat.le_of_ble_eq_true rfl) ?_
  intro p e s m below meth c A Q ls H locs hx hb hml hown hts hE hw hl hret
  have F : kk_at p m c cX5_pack 4 s _ wsX5_pack RX5 G cI cJ ad A := ⟨⟨hx, hb, hml, hown, hts⟩, hE⟩
  have hl : lv_has ls 4 [(0, .ref a0), (1, .ref b0), (2, .int i2)] := hl
  unfold F_X5_pack at hF0
  have hJ1 : ∀ (x_bitsEach_1 : Int32) (x_wordCount_1 : Int32) (f_words_1 : Nat → Int64), J_X5_pack_64 N x_bitsEach_1 x_wordCount_1 f_words_1 = some x → ∀ (H : Heap) (locs : List Loc) (ls : Array Slot), kk_wd G A s.heap [(a0, .inr (5, [.ref a1, .int x_bitsEach_1, .int x_wordCount_1])), (a1, .inl (cJ, 17, .inr (.inl f_words_1))), (b0, .inr (6, [.ref b1])), (b1, .inl (cI, q_n_cells, .inl q_f_cells))] H locs → lv_has ls 4 [] → W p l e (kk_rm 2 0 0 48) s m ([.ref a0, .ref b0, .int i2] : List Value).toArray below meth c H locs 0 0 Q (F0 m 64 ls []) := by
    intro x_bitsEach_1 x_wordCount_1 f_words_1 hF0 H locs ls hw hl
    unfold J_X5_pack_64 at hF0
    have hy := Option.some.inj hF0
    subst hy
    exact hret dX5_pack_64 (by decide) (by decide) hw
  refine lv_aload_n hx hb dX5_pack_0 rfl (lv_at hl 0 rfl) ?_
  refine kk_get (T := TX5) F hw ui_X5_pack_X5 0 rfl rfl 0 (by decide) m_X5_pack_Cond_fieldLink_RX5_9_PerfectPew_Packer_words_J_ rfl dX5_pack_1 ?_
  refine lv_lconst (v := 0) hx hb dX5_pack_4 (by decide) ?_
  obtain ⟨v2, ev2, hF0⟩ := kk_bind hF0
  refine kk_callV 0 0 hw (kk_runS (As := [.ref a1, .long 0]) (rest := []) F hw hl.1 (c_J7_fill_d0a16 l G cI cJ ad a1 17 f_words 0 N v2 ev2 H.size) gX5_pack_J7_fill_d0a16 rfl md_J7_fill_d0a16 ⟨Nat.le_of_ble_eq_true rfl, Nat.le_of_ble_eq_true rfl⟩ ⟨Nat.le_of_ble_eq_true rfl, Nat.le_of_ble_eq_true rfl⟩ rfl (Nat.le_of_ble_eq_true rfl) dX5_pack_5) ⟨rfl, rfl⟩ [1] (by decide) rfl rfl (fun H locs hw => ?_)
  have hw : kk_wd G A s.heap [(a0, .inr (5, [.ref a1, .int x_bitsEach, .int x_wordCount])), (a1, .inl (cJ, 17, .inr (.inl v2))), (b0, .inr (6, [.ref b1])), (b1, .inl (cI, q_n_cells, .inl q_f_cells))] H locs := hw
  refine lv_aload_n hx hb dX5_pack_8 rfl (lv_at hl 0 rfl) ?_
  refine lv_aload_n hx hb dX5_pack_9 rfl (lv_at hl 1 rfl) ?_
  refine lv_iload_n hx hb dX5_pack_10 rfl (lv_at hl 2 rfl) ?_
  obtain ⟨v3, ev3, hF0⟩ := kk_bind hF0
  refine kk_callI 0 0 hw (kk_runS (As := [.ref b0, .int i2]) (rest := [.ref a0]) F hw hl.1 (c_X5_greatest l G cI cJ ad b0 b1 q_n_cells q_f_cells i2 N v3 ev3 H.size) gX5_pack_X5_greatest rfl md_X5_greatest ⟨Nat.le_of_ble_eq_true rfl, Nat.le_of_ble_eq_true rfl⟩ ⟨Nat.le_of_ble_eq_true rfl, Nat.le_of_ble_eq_true rfl⟩ rfl (Nat.le_of_ble_eq_true rfl) dX5_pack_11) ⟨rfl, rfl⟩ [2, 3] (by decide) rfl rfl (fun H locs hw => ?_)
  have hw : kk_wd G A s.heap [(a0, .inr (5, [.ref a1, .int x_bitsEach, .int x_wordCount])), (a1, .inl (cJ, 17, .inr (.inl v2))), (b0, .inr (6, [.ref b1])), (b1, .inl (cI, q_n_cells, .inl q_f_cells))] H locs := hw
  obtain ⟨v4, ev4, hF0⟩ := kk_bind hF0
  refine kk_callI 0 0 hw (kk_runS (As := [.int v3]) (rest := [.ref a0]) F hw hl.1 (c_X5_widthFor l G cI cJ ad v3 N v4 ev4 H.size) gX5_pack_X5_widthFor rfl md_X5_widthFor ⟨Nat.le_of_ble_eq_true rfl, Nat.le_of_ble_eq_true rfl⟩ ⟨Nat.le_of_ble_eq_true rfl, Nat.le_of_ble_eq_true rfl⟩ rfl (Nat.le_of_ble_eq_true rfl) dX5_pack_14) ⟨rfl, rfl⟩ [] (by decide) rfl rfl (fun H locs hw => ?_)
  refine kk_put F hw ui_X5_pack_X5 tyX5 tyX5_ok nmX5 0 rfl rfl 1 (by decide) m_X5_pack_Cond_fieldLink_RX5_29_PerfectPew_Packer_bitsEach_I_ rfl rfl rfl (Nat.le_of_ble_eq_true rfl) dX5_pack_17 (fun H locs hw => ?_)
  have hw : kk_wd G A s.heap [(a0, .inr (5, [.ref a1, .int v4, .int x_wordCount])), (a1, .inl (cJ, 17, .inr (.inl v2))), (b0, .inr (6, [.ref b1])), (b1, .inl (cI, q_n_cells, .inl q_f_cells))] H locs := hw
  refine lv_aload_n hx hb dX5_pack_20 rfl (lv_at hl 0 rfl) ?_
  refine lv_iload_n hx hb dX5_pack_21 rfl (lv_at hl 2 rfl) ?_
  refine lv_aload_n hx hb dX5_pack_22 rfl (lv_at hl 0 rfl) ?_
  refine kk_get (T := TX5) F hw ui_X5_pack_X5 0 rfl rfl 1 (by decide) m_X5_pack_Cond_fieldLink_RX5_29_PerfectPew_Packer_bitsEach_I_ rfl dX5_pack_23 ?_
  refine lv_imul hx hb dX5_pack_26 ?_
  refine lv_bipush (v := 64) hx hb dX5_pack_27 (by decide) ?_
  obtain ⟨v5, ev5, hF0⟩ := kk_bind hF0
  refine kk_callI 0 0 hw (kk_runSN (As := [.int (i2 * v4), .int 64]) (rest := [.ref a0]) F hw hl.1 (c_X7_dividedUp l G cI cJ ad (i2 * v4) 64 N v5 ev5 H.size) gX5_pack_X7_dividedUp_n33 rfl nl_64 m_X5_pack_Cond_initialized_yX7_dividedUp_cls m_X5_pack_Cond_static_yX7_dividedUp md_X7_dividedUp ⟨Nat.le_of_ble_eq_true rfl, Nat.le_of_ble_eq_true rfl⟩ ⟨Nat.le_of_ble_eq_true rfl, Nat.le_of_ble_eq_true rfl⟩ rfl (Nat.le_of_ble_eq_true rfl) dX5_pack_29) ⟨rfl, rfl⟩ [] (by decide) rfl rfl (fun H locs hw => ?_)
  refine kk_put F hw ui_X5_pack_X5 tyX5 tyX5_ok nmX5 0 rfl rfl 2 (by decide) m_X5_pack_Cond_fieldLink_RX5_37_PerfectPew_Packer_wordCount_I_ rfl rfl rfl (Nat.le_of_ble_eq_true rfl) dX5_pack_32 (fun H locs hw => ?_)
  have hw : kk_wd G A s.heap [(a0, .inr (5, [.ref a1, .int v4, .int v5])), (a1, .inl (cJ, 17, .inr (.inl v2))), (b0, .inr (6, [.ref b1])), (b1, .inl (cI, q_n_cells, .inl q_f_cells))] H locs := hw
  refine lv_iconst (v := 0) hx hb dX5_pack_35 (by decide) ?_
  refine lv_istore_n (lv' := [(3, .int 0), (0, .ref a0), (1, .ref b0), (2, .int i2)]) hx hb dX5_pack_36 rfl hl (by decide) rfl (fun ls hl => ?_)
  obtain ⟨z6, hz7, hF0⟩ := kk_bind hF0
  have hL7 : ∀ (n7 : Nat) (f_words_7 : Nat → Int64) (i3_7 : Int32), kk_iter (fun (σ : ((Nat → Int64) × Int32)) => L_X5_pack_37 N q_n_cells v4 q_f_cells i2 σ.1 σ.2) n7 (f_words_7, i3_7) = some z6 → ∀ (H : Heap) (locs : List Loc) (ls : Array Slot), kk_wd G A s.heap [(a0, .inr (5, [.ref a1, .int v4, .int v5])), (a1, .inl (cJ, 17, .inr (.inl f_words_7))), (b0, .inr (6, [.ref b1])), (b1, .inl (cI, q_n_cells, .inl q_f_cells))] H locs → lv_has ls 4 [(0, .ref a0), (1, .ref b0), (2, .int i2), (3, .int i3_7)] → W p l e (kk_rm 2 0 0 48) s m ([.ref a0, .ref b0, .int i2] : List Value).toArray below meth c H locs 0 0 Q (F0 m 37 ls []) := by
    intro n7
    induction n7 with
    | zero => intro f_words_7 i3_7 h; exact kk_iter0 h
    | succ n7 ih7 =>
      intro f_words_7 i3_7 hq H locs ls hw hl
      obtain ⟨y7, hF1, hI1⟩ := kk_iterS hq
      have hF1 : L_X5_pack_37 N q_n_cells v4 q_f_cells i2 f_words_7 i3_7 = some y7 := hF1
      unfold L_X5_pack_37 at hF1
      refine lv_iload_n hx hb dX5_pack_37 rfl (lv_at hl 3 rfl) ?_
      refine lv_iload_n hx hb dX5_pack_38 rfl (lv_at hl 2 rfl) ?_
      refine lv_icmp_ge (tgt := 64) hx hb dX5_pack_39 (by decide) (fun c8 => ?_) (fun c8 => ?_)
      · have hF1 := (if_pos c8).symm.trans hF1
        have hy := Option.some.inj hF1
        subst hy
        have hz := Option.some.inj hI1
        subst hz
        exact hJ1 v4 v5 f_words_7 hF0 _ _ _ hw (lv_sub hl [] rfl)
      · have hF1 := (if_neg c8).symm.trans hF1
        refine lv_aload_n hx hb dX5_pack_42 rfl (lv_at hl 0 rfl) ?_
        refine lv_iload_n hx hb dX5_pack_43 rfl (lv_at hl 3 rfl) ?_
        refine lv_aload_n hx hb dX5_pack_44 rfl (lv_at hl 0 rfl) ?_
        refine kk_get (T := TX5) F hw ui_X5_pack_X5 0 rfl rfl 1 (by decide) m_X5_pack_Cond_fieldLink_RX5_29_PerfectPew_Packer_bitsEach_I_ rfl dX5_pack_45 ?_
        refine lv_imul hx hb dX5_pack_48 ?_
        refine lv_aload_n hx hb dX5_pack_49 rfl (lv_at hl 1 rfl) ?_
        refine lv_iload_n hx hb dX5_pack_50 rfl (lv_at hl 3 rfl) ?_
        obtain ⟨v9, ev9, hF1⟩ := kk_bind hF1
        refine kk_callI 0 0 hw (kk_runN (As := [.int i3_7]) (rest := [.int (i3_7 * v4), .ref a0]) F hw hl.1 (c_X6_get l G cI cJ ad b0 b1 q_n_cells q_f_cells i3_7 N v9 ev9 H.size) gX5_pack_X6_get_n40 rfl nl_63 m_X5_pack_Cond_initialized_yX6_get_cls m_X5_pack_Cond_instanceMethod_yX6_get m_X5_pack_Cond_selects_RX6_yX6_get_yX6_get md_X6_get ⟨Nat.le_of_ble_eq_true rfl, Nat.le_of_ble_eq_true rfl⟩ ⟨Nat.le_of_ble_eq_true rfl, Nat.le_of_ble_eq_true rfl⟩ 2 6 rfl rfl rfl rfl (Nat.le_of_ble_eq_true rfl) dX5_pack_51) ⟨rfl, rfl⟩ [2, 3] (by decide) rfl rfl (fun H locs hw => ?_)
        have hw : kk_wd G A s.heap [(a0, .inr (5, [.ref a1, .int v4, .int v5])), (a1, .inl (cJ, 17, .inr (.inl f_words_7))), (b0, .inr (6, [.ref b1])), (b1, .inl (cI, q_n_cells, .inl q_f_cells))] H locs := hw
        refine lv_i2l hx hb dX5_pack_54 rfl ?_
        obtain ⟨v10, ev10, hF1⟩ := kk_bind hF1
        refine kk_callV 0 0 hw (kk_runV (As := [.int (i3_7 * v4), .long (Int32.toInt64 v9)]) (rest := []) F hw hl.1 (c_X5_write l G cI cJ ad a0 a1 v4 v5 f_words_7 (i3_7 * v4) (Int32.toInt64 v9) N v10 ev10 H.size) gX5_pack_X5_write rfl ⟨rfl, md_X5_write⟩ ⟨Nat.le_of_ble_eq_true rfl, Nat.le_of_ble_eq_true rfl⟩ ⟨Nat.le_of_ble_eq_true rfl, Nat.le_of_ble_eq_true rfl⟩ 0 5 rfl rfl rfl rfl (Nat.le_of_ble_eq_true rfl) dX5_pack_55) ⟨rfl, rfl⟩ [0, 1] (by decide) rfl rfl (fun H locs hw => ?_)
        have hw : kk_wd G A s.heap [(a0, .inr (5, [.ref a1, .int v4, .int v5])), (a1, .inl (cJ, 17, .inr (.inl v10))), (b0, .inr (6, [.ref b1])), (b1, .inl (cI, q_n_cells, .inl q_f_cells))] H locs := hw
        refine lv_iinc (v := (i3_7 + 1)) (lv' := [(3, .int (i3_7 + 1)), (0, .ref a0), (1, .ref b0), (2, .int i2)]) hx hb dX5_pack_58 hl (k := 3) rfl rfl (by decide) rfl (fun ls hl => ?_)
        refine lv_goto (tgt := 37) hx hb dX5_pack_61 (by decide) ?_
        have hy := Option.some.inj hF1
        subst hy
        exact ih7 v10 (i3_7 + 1) hI1 _ _ _ hw (lv_sub hl [1, 2, 3, 0] rfl)
  exact hL7 N v2 0 hz7 _ _ _ hw (lv_sub hl [1, 2, 3, 0] rfl)
theorem ui_X5_wordAt_X5 : ∀ w ∈ u_ws RX5 TX5 3, w ∈ wsX5_wordAt := by decide +kernel
theorem m_X5_wordAt_Cond_fieldLink_RX5_9_PerfectPew_Packer_words_J_ : Cond.fieldLink RX5 9 "PerfectPew$Packer" "words" "[J" ∈ wsX5_wordAt := by decide +kernel
set_option maxRecDepth 100000 in
set_option maxHeartbeats 4000000 in
theorem c_X5_wordAt (l : Launch) (G : va_G) (cI cJ : ClassId) (ad : Nat → Nat) (a0 a1 : Nat) (x_bitsEach : Int32) (x_wordCount : Int32) (f_words : Nat → Int64) (i1 : Int32) (N : Nat) (x : Int64) (hF0 : F_X5_wordAt N f_words i1 = some x) : kk_L l yX5_wordAt wsX5_wordAt 0 0 0 0 [.ref a0, .int i1] G cI cJ ad [(a0, .inr (5, [.ref a1, .int x_bitsEach, .int x_wordCount])), (a1, .inl (cJ, 17, .inr (.inl f_words)))] x [(a0, .inr (5, [.ref a1, .int x_bitsEach, .int x_wordCount])), (a1, .inl (cJ, 17, .inr (.inl f_words)))] := by
  refine kk_ofL (cc := cX5_wordAt) (maxL := 2) (by decide) rfl (Nat.le_of_ble_eq_true rfl) ?_
  intro p e s m below meth c A Q ls H locs hx hb hml hown hts hE hw hl hret
  have F : kk_at p m c cX5_wordAt 2 s _ wsX5_wordAt RX5 G cI cJ ad A := ⟨⟨hx, hb, hml, hown, hts⟩, hE⟩
  have hl : lv_has ls 2 [(0, .ref a0), (1, .int i1)] := hl
  unfold F_X5_wordAt at hF0
  have hJ1 : ∀ (s0_1 : Int64), J_X5_wordAt_23 N s0_1 = some x → ∀ (H : Heap) (locs : List Loc) (ls : Array Slot), kk_wd G A s.heap [(a0, .inr (5, [.ref a1, .int x_bitsEach, .int x_wordCount])), (a1, .inl (cJ, 17, .inr (.inl f_words)))] H locs → lv_has ls 2 [] → W p l e (kk_rm 0 0 0 0) s m ([.ref a0, .int i1] : List Value).toArray below meth c H locs 0 0 Q (F0 m 23 ls [.long s0_1]) := by
    intro s0_1 hF0 H locs ls hw hl
    unfold J_X5_wordAt_23 at hF0
    have hy := Option.some.inj hF0
    subst hy
    exact hret dX5_wordAt_23 (by decide) (by decide) hw
  have hJ2 : ∀ (_ : Unit), J_X5_wordAt_22 N = some x → ∀ (H : Heap) (locs : List Loc) (ls : Array Slot), kk_wd G A s.heap [(a0, .inr (5, [.ref a1, .int x_bitsEach, .int x_wordCount])), (a1, .inl (cJ, 17, .inr (.inl f_words)))] H locs → lv_has ls 2 [] → W p l e (kk_rm 0 0 0 0) s m ([.ref a0, .int i1] : List Value).toArray below meth c H locs 0 0 Q (F0 m 22 ls []) := by
    intro _ hF0 H locs ls hw hl
    unfold J_X5_wordAt_22 at hF0
    refine lv_lconst (v := 0) hx hb dX5_wordAt_22 (by decide) ?_
    exact hJ1 0 hF0 _ _ _ hw (lv_sub hl [] rfl)
  refine lv_iload_n hx hb dX5_wordAt_0 rfl (lv_at hl 1 rfl) ?_
  refine lv_if_lt (tgt := 22) hx hb dX5_wordAt_1 (by decide) (fun c3 => ?_) (fun c3 => ?_)
  · have hF0 := (if_pos c3).symm.trans hF0
    exact hJ2 ()  hF0 _ _ _ hw (lv_sub hl [] rfl)
  · have hF0 := (if_neg c3).symm.trans hF0
    refine lv_iload_n hx hb dX5_wordAt_4 rfl (lv_at hl 1 rfl) ?_
    refine lv_aload_n hx hb dX5_wordAt_5 rfl (lv_at hl 0 rfl) ?_
    refine kk_get (T := TX5) F hw ui_X5_wordAt_X5 0 rfl rfl 0 (by decide) m_X5_wordAt_Cond_fieldLink_RX5_9_PerfectPew_Packer_words_J_ rfl dX5_wordAt_6 ?_
    refine kk_alenL F hw 1 rfl dX5_wordAt_9 ?_
    refine lv_icmp_ge (tgt := 22) hx hb dX5_wordAt_10 (by decide) (fun c4 => ?_) (fun c4 => ?_)
    · have hF0 := (if_pos c4).symm.trans hF0
      exact hJ2 ()  hF0 _ _ _ hw (lv_sub hl [] rfl)
    · have hF0 := (if_neg c4).symm.trans hF0
      refine lv_aload_n hx hb dX5_wordAt_13 rfl (lv_at hl 0 rfl) ?_
      refine kk_get (T := TX5) F hw ui_X5_wordAt_X5 0 rfl rfl 0 (by decide) m_X5_wordAt_Cond_fieldLink_RX5_9_PerfectPew_Packer_words_J_ rfl dX5_wordAt_14 ?_
      refine lv_iload_n hx hb dX5_wordAt_17 rfl (lv_at hl 1 rfl) ?_
      obtain ⟨v5, ev5, hF0⟩ := kk_bind hF0
      refine kk_lald F hw 1 rfl ev5 dX5_wordAt_18 ?_
      refine lv_goto (tgt := 23) hx hb dX5_wordAt_19 (by decide) ?_
      exact hJ1 v5 hF0 _ _ _ hw (lv_sub hl [] rfl)
