theorem m_X7_requireKey_Cond_constant_RX7_178_99999_ : Cond.constant RX7 178 (99999) ∈ wsX7_requireKey := by decide +kernel
set_option maxRecDepth 100000 in
set_option maxHeartbeats 4000000 in
theorem c_X7_requireKey (l : Launch) (G : va_G) (cI cJ : ClassId) (ad : Nat → Nat) (i0 : Int32) (N : Nat) (x : Unit) (hF0 : F_X7_requireKey N i0 = some x) : kk_V l yX7_requireKey wsX7_requireKey 0 0 0 0 [.int i0] G cI cJ ad [] [] := by
  refine kk_ofV (cc := cX7_requireKey) (maxL := 1) (by decide) rfl (Nat.le_of_ble_eq_true rfl) ?_
  intro p e s m below meth c A Q ls H locs hx hb hml hown hts hE hw hl hret
  have F : kk_at p m c cX7_requireKey 1 s _ wsX7_requireKey RX7 G cI cJ ad A := ⟨⟨hx, hb, hml, hown, hts⟩, hE⟩
  have hl : lv_has ls 1 [(0, .int i0)] := hl
  unfold F_X7_requireKey at hF0
  have hJ1 : ∀ (_ : Unit), J_X7_requireKey_10 N = some x → ∀ (H : Heap) (locs : List Loc) (ls : Array Slot), kk_wd G A s.heap [] H locs → lv_has ls 1 [] → W p l e (kk_rm 0 0 0 0) s m ([.int i0] : List Value).toArray below meth c H locs 0 0 Q (F0 m 10 ls []) := by
    intro _ hF0 H locs ls hw hl
    unfold J_X7_requireKey_10 at hF0
    cases hF0
  refine lv_iload_n hx hb dX7_requireKey_0 rfl (lv_at hl 0 rfl) ?_
  refine lv_if_lt (tgt := 10) hx hb dX7_requireKey_1 (by decide) (fun c2 => ?_) (fun c2 => ?_)
  · have hF0 := (if_pos c2).symm.trans hF0
    exact hJ1 ()  hF0 _ _ _ hw (lv_sub hl [] rfl)
  · have hF0 := (if_neg c2).symm.trans hF0
    refine lv_iload_n hx hb dX7_requireKey_4 rfl (lv_at hl 0 rfl) ?_
    refine lv_ldc hx hb hown (hts _ m_X7_requireKey_Cond_constant_RX7_178_99999_) dX7_requireKey_5 ?_
    refine lv_icmp_le (tgt := 20) hx hb dX7_requireKey_7 (by decide) (fun c3 => ?_) (fun c3 => ?_)
    · have hF0 := (if_pos c3).symm.trans hF0
      have hy := Option.some.inj hF0
      subst hy
      exact hret dX7_requireKey_20 (by decide) (by decide) hw
    · have hF0 := (if_neg c3).symm.trans hF0
      exact hJ1 ()  hF0 _ _ _ hw (lv_sub hl [] rfl)
set_option maxRecDepth 100000 in
set_option maxHeartbeats 4000000 in
theorem c_X7_requireLine (l : Launch) (G : va_G) (cI cJ : ClassId) (ad : Nat → Nat) (i0 : Int32) (i1 : Int32) (i2 : Int32) (N : Nat) (x : Unit) (hF0 : F_X7_requireLine N i0 i1 i2 = some x) : kk_V l yX7_requireLine wsX7_requireLine 1 0 0 20 [.int i0, .int i1, .int i2] G cI cJ ad [] [] := by
  refine kk_ofV (cc := cX7_requireLine) (maxL := 3) (by decide) rfl (Nat.le_of_ble_eq_true rfl) ?_
  intro p e s m below meth c A Q ls H locs hx hb hml hown hts hE hw hl hret
  have F : kk_at p m c cX7_requireLine 3 s _ wsX7_requireLine RX7 G cI cJ ad A := ⟨⟨hx, hb, hml, hown, hts⟩, hE⟩
  have hl : lv_has ls 3 [(0, .int i0), (1, .int i1), (2, .int i2)] := hl
  unfold F_X7_requireLine at hF0
  have hJ1 : ∀ (_ : Unit), J_X7_requireLine_37 N = some x → ∀ (H : Heap) (locs : List Loc) (ls : Array Slot), kk_wd G A s.heap [] H locs → lv_has ls 3 [] → W p l e (kk_rm 1 0 0 20) s m ([.int i0, .int i1, .int i2] : List Value).toArray below meth c H locs 0 0 Q (F0 m 37 ls []) := by
    intro _ hF0 H locs ls hw hl
    unfold J_X7_requireLine_37 at hF0
    cases hF0
  have hJ2 : ∀ (_ : Unit), J_X7_requireLine_16 N = some x → ∀ (H : Heap) (locs : List Loc) (ls : Array Slot), kk_wd G A s.heap [] H locs → lv_has ls 3 [] → W p l e (kk_rm 1 0 0 20) s m ([.int i0, .int i1, .int i2] : List Value).toArray below meth c H locs 0 0 Q (F0 m 16 ls []) := by
    intro _ hF0 H locs ls hw hl
    unfold J_X7_requireLine_16 at hF0
    cases hF0
  refine lv_iload_n hx hb dX7_requireLine_0 rfl (lv_at hl 0 rfl) ?_
  obtain ⟨v3, ev3, hF0⟩ := kk_bind hF0
  refine kk_callV 0 0 hw (kk_runS (As := [.int i0]) (rest := []) F hw hl.1 (c_X7_requireKey l G cI cJ ad i0 N v3 ev3 H.size) gX7_requireLine_X7_requireKey rfl md_X7_requireKey ⟨Nat.le_of_ble_eq_true rfl, Nat.le_of_ble_eq_true rfl⟩ ⟨Nat.le_of_ble_eq_true rfl, Nat.le_of_ble_eq_true rfl⟩ rfl (Nat.le_of_ble_eq_true rfl) dX7_requireLine_1) ⟨rfl, rfl⟩ [] (by decide) rfl rfl (fun H locs hw => ?_)
  refine lv_iload_n hx hb dX7_requireLine_4 rfl (lv_at hl 1 rfl) ?_
  refine lv_iconst (v := 1) hx hb dX7_requireLine_5 (by decide) ?_
  refine lv_icmp_lt (tgt := 16) hx hb dX7_requireLine_6 (by decide) (fun c4 => ?_) (fun c4 => ?_)
  · have hF0 := (if_pos c4).symm.trans hF0
    exact hJ2 ()  hF0 _ _ _ hw (lv_sub hl [] rfl)
  · have hF0 := (if_neg c4).symm.trans hF0
    refine lv_iload_n hx hb dX7_requireLine_9 rfl (lv_at hl 1 rfl) ?_
    refine lv_sipush (v := 9999) hx hb dX7_requireLine_10 (by decide) ?_
    refine lv_icmp_le (tgt := 26) hx hb dX7_requireLine_13 (by decide) (fun c5 => ?_) (fun c5 => ?_)
    · have hF0 := (if_pos c5).symm.trans hF0
      refine lv_iload_n hx hb dX7_requireLine_26 rfl (lv_at hl 2 rfl) ?_
      refine lv_iconst (v := 1) hx hb dX7_requireLine_27 (by decide) ?_
      refine lv_icmp_lt (tgt := 37) hx hb dX7_requireLine_28 (by decide) (fun c6 => ?_) (fun c6 => ?_)
      · have hF0 := (if_pos c6).symm.trans hF0
        exact hJ1 ()  hF0 _ _ _ hw (lv_sub hl [] rfl)
      · have hF0 := (if_neg c6).symm.trans hF0
        refine lv_iload_n hx hb dX7_requireLine_31 rfl (lv_at hl 2 rfl) ?_
        refine lv_bipush (v := 40) hx hb dX7_requireLine_32 (by decide) ?_
        refine lv_icmp_le (tgt := 47) hx hb dX7_requireLine_34 (by decide) (fun c7 => ?_) (fun c7 => ?_)
        · have hF0 := (if_pos c7).symm.trans hF0
          refine lv_iload_n hx hb dX7_requireLine_47 rfl (lv_at hl 0 rfl) ?_
          refine lv_iload_n hx hb dX7_requireLine_48 rfl (lv_at hl 2 rfl) ?_
          refine lv_iconst (v := 1) hx hb dX7_requireLine_49 (by decide) ?_
          refine lv_isub hx hb dX7_requireLine_50 ?_
          refine lv_iload_n hx hb dX7_requireLine_51 rfl (lv_at hl 1 rfl) ?_
          refine lv_imul hx hb dX7_requireLine_52 ?_
          refine lv_iadd hx hb dX7_requireLine_53 ?_
          obtain ⟨v8, ev8, hF0⟩ := kk_bind hF0
          refine kk_callV 0 0 hw (kk_runS (As := [.int (i0 + ((i2 - 1) * i1))]) (rest := []) F hw hl.1 (c_X7_requireKey l G cI cJ ad (i0 + ((i2 - 1) * i1)) N v8 ev8 H.size) gX7_requireLine_X7_requireKey rfl md_X7_requireKey ⟨Nat.le_of_ble_eq_true rfl, Nat.le_of_ble_eq_true rfl⟩ ⟨Nat.le_of_ble_eq_true rfl, Nat.le_of_ble_eq_true rfl⟩ rfl (Nat.le_of_ble_eq_true rfl) dX7_requireLine_54) ⟨rfl, rfl⟩ [] (by decide) rfl rfl (fun H locs hw => ?_)
          have hy := Option.some.inj hF0
          subst hy
          exact hret dX7_requireLine_57 (by decide) (by decide) hw
        · have hF0 := (if_neg c7).symm.trans hF0
          exact hJ1 ()  hF0 _ _ _ hw (lv_sub hl [] rfl)
    · have hF0 := (if_neg c5).symm.trans hF0
      exact hJ2 ()  hF0 _ _ _ hw (lv_sub hl [] rfl)
theorem ui_X7_requireOpen_X7 : ∀ w ∈ u_ws RX7 TX7 7, w ∈ wsX7_requireOpen := by decide +kernel
theorem m_X7_requireOpen_Cond_fieldLink_RX7_125_PerfectPew_built_Z_ : Cond.fieldLink RX7 125 "PerfectPew" "built" "Z" ∈ wsX7_requireOpen := by decide +kernel
set_option maxRecDepth 100000 in
set_option maxHeartbeats 4000000 in
theorem c_X7_requireOpen (l : Launch) (G : va_G) (cI cJ : ClassId) (ad : Nat → Nat) (a0 a1 a4 a22 a24 a38 : Nat) (x_fingerprintMask : Int32) (x_built : Int32) (N : Nat) (x : Unit) (hF0 : F_X7_requireOpen N x_built = some x) : kk_V l yX7_requireOpen wsX7_requireOpen 0 0 0 0 [.ref a0] G cI cJ ad [(a0, .inr (7, [.ref a1, .ref a4, .ref a22, .ref a24, .ref a38, .int x_fingerprintMask, .int x_built]))] [(a0, .inr (7, [.ref a1, .ref a4, .ref a22, .ref a24, .ref a38, .int x_fingerprintMask, .int x_built]))] := by
  refine kk_ofV (cc := cX7_requireOpen) (maxL := 1) (by decide) rfl (Nat.le_of_ble_eq_true rfl) ?_
  intro p e s m below meth c A Q ls H locs hx hb hml hown hts hE hw hl hret
  have F : kk_at p m c cX7_requireOpen 1 s _ wsX7_requireOpen RX7 G cI cJ ad A := ⟨⟨hx, hb, hml, hown, hts⟩, hE⟩
  have hl : lv_has ls 1 [(0, .ref a0)] := hl
  unfold F_X7_requireOpen at hF0
  refine lv_aload_n hx hb dX7_requireOpen_0 rfl (lv_at hl 0 rfl) ?_
  refine kk_get (T := TX7) F hw ui_X7_requireOpen_X7 0 rfl rfl 6 (by decide) m_X7_requireOpen_Cond_fieldLink_RX7_125_PerfectPew_built_Z_ rfl dX7_requireOpen_1 ?_
  refine lv_if_eq (tgt := 17) hx hb dX7_requireOpen_4 (by decide) (fun c1 => ?_) (fun c1 => ?_)
  · have hF0 := (if_pos c1).symm.trans hF0
    have hy := Option.some.inj hF0
    subst hy
    exact hret dX7_requireOpen_17 (by decide) (by decide) hw
  · have hF0 := (if_neg c1).symm.trans hF0
    cases hF0
theorem ui_X7_newInLine_X7 : ∀ w ∈ u_ws RX7 TX7 7, w ∈ wsX7_newInLine := by decide +kernel
theorem m_X7_newInLine_Cond_fieldLink_RX7_10_PerfectPew_sorted_LPerfectPew_KeyList_ : Cond.fieldLink RX7 10 "PerfectPew" "sorted" "LPerfectPew$KeyList;" ∈ wsX7_newInLine := by decide +kernel
theorem m_X7_newInLine_Cond_initialized_yX4_holds_cls : Cond.initialized yX4_holds.cls ∈ wsX7_newInLine := by decide +kernel
theorem m_X7_newInLine_Cond_instanceMethod_yX4_holds : Cond.instanceMethod yX4_holds ∈ wsX7_newInLine := by decide +kernel
theorem m_X7_newInLine_Cond_selects_RX4_yX4_holds_yX4_holds : Cond.selects RX4 yX4_holds yX4_holds ∈ wsX7_newInLine := by decide +kernel
set_option maxRecDepth 100000 in
set_option maxHeartbeats 4000000 in
theorem c_X7_newInLine (l : Launch) (G : va_G) (cI cJ : ClassId) (ad : Nat → Nat) (a0 a1 a2 a3 a4 a22 a24 a38 : Nat) (x_fingerprintMask : Int32) (x_built : Int32) (x_sorted_size : Int32) (f_sorted_places : Nat → Int32) (i1 : Int32) (i2 : Int32) (i3 : Int32) (N : Nat) (x : Int32) (hF0 : F_X7_newInLine N x_sorted_size f_sorted_places i1 i2 i3 = some x) : kk_I l yX7_newInLine wsX7_newInLine 3 0 0 65 [.ref a0, .int i1, .int i2, .int i3] G cI cJ ad [(a0, .inr (7, [.ref a1, .ref a4, .ref a22, .ref a24, .ref a38, .int x_fingerprintMask, .int x_built])), (a1, .inr (4, [.ref a2, .int x_sorted_size])), (a2, .inr (6, [.ref a3])), (a3, .inl (cI, 120, .inl f_sorted_places))] x [(a0, .inr (7, [.ref a1, .ref a4, .ref a22, .ref a24, .ref a38, .int x_fingerprintMask, .int x_built])), (a1, .inr (4, [.ref a2, .int x_sorted_size])), (a2, .inr (6, [.ref a3])), (a3, .inl (cI, 120, .inl f_sorted_places))] := by
  refine kk_ofI (cc := cX7_newInLine) (maxL := 6) (by decide) rfl (Nat.le_of_ble_eq_true rfl) ?_
  intro p e s m below meth c A Q ls H locs hx hb hml hown hts hE hw hl hret
  have F : kk_at p m c cX7_newInLine 6 s _ wsX7_newInLine RX7 G cI cJ ad A := ⟨⟨hx, hb, hml, hown, hts⟩, hE⟩
  have hl : lv_has ls 6 [(0, .ref a0), (1, .int i1), (2, .int i2), (3, .int i3)] := hl
  unfold F_X7_newInLine at hF0
  have hJ1 : ∀ (i4_1 : Int32), J_X7_newInLine_37 N i4_1 = some x → ∀ (H : Heap) (locs : List Loc) (ls : Array Slot), kk_wd G A s.heap [(a0, .inr (7, [.ref a1, .ref a4, .ref a22, .ref a24, .ref a38, .int x_fingerprintMask, .int x_built])), (a1, .inr (4, [.ref a2, .int x_sorted_size])), (a2, .inr (6, [.ref a3])), (a3, .inl (cI, 120, .inl f_sorted_places))] H locs → lv_has ls 6 [(4, .int i4_1)] → W p l e (kk_rm 3 0 0 65) s m ([.ref a0, .int i1, .int i2, .int i3] : List Value).toArray below meth c H locs 0 0 Q (F0 m 37 ls []) := by
    intro i4_1 hF0 H locs ls hw hl
    unfold J_X7_newInLine_37 at hF0
    refine lv_iload hx hb dX7_newInLine_37 (lv_at hl 0 rfl) ?_
    have hy := Option.some.inj hF0
    subst hy
    exact hret dX7_newInLine_39 (by decide) (by decide) hw
  refine lv_iconst (v := 0) hx hb dX7_newInLine_0 (by decide) ?_
  refine lv_istore (lv' := [(4, .int 0), (0, .ref a0), (1, .int i1), (2, .int i2), (3, .int i3)]) hx hb dX7_newInLine_1 hl (by decide) rfl (fun ls hl => ?_)
  refine lv_iconst (v := 0) hx hb dX7_newInLine_3 (by decide) ?_
  refine lv_istore (lv' := [(5, .int 0), (4, .int 0), (0, .ref a0), (1, .int i1), (2, .int i2), (3, .int i3)]) hx hb dX7_newInLine_4 hl (by decide) rfl (fun ls hl => ?_)
  obtain ⟨z2, hz3, hF0⟩ := kk_bind hF0
  have hL3 : ∀ (n3 : Nat) (i4_3 : Int32) (i5_3 : Int32), kk_iter (fun (σ : (Int32 × Int32)) => L_X7_newInLine_6 N x_sorted_size f_sorted_places i1 i2 i3 σ.1 σ.2) n3 (i4_3, i5_3) = some z2 → ∀ (H : Heap) (locs : List Loc) (ls : Array Slot), kk_wd G A s.heap [(a0, .inr (7, [.ref a1, .ref a4, .ref a22, .ref a24, .ref a38, .int x_fingerprintMask, .int x_built])), (a1, .inr (4, [.ref a2, .int x_sorted_size])), (a2, .inr (6, [.ref a3])), (a3, .inl (cI, 120, .inl f_sorted_places))] H locs → lv_has ls 6 [(0, .ref a0), (1, .int i1), (2, .int i2), (3, .int i3), (4, .int i4_3), (5, .int i5_3)] → W p l e (kk_rm 3 0 0 65) s m ([.ref a0, .int i1, .int i2, .int i3] : List Value).toArray below meth c H locs 0 0 Q (F0 m 6 ls []) := by
    intro n3
    induction n3 with
    | zero => intro i4_3 i5_3 h; exact kk_iter0 h
    | succ n3 ih3 =>
      intro i4_3 i5_3 hq H locs ls hw hl
      obtain ⟨y3, hF1, hI1⟩ := kk_iterS hq
      have hF1 : L_X7_newInLine_6 N x_sorted_size f_sorted_places i1 i2 i3 i4_3 i5_3 = some y3 := hF1
      unfold L_X7_newInLine_6 at hF1
      have hJ4 : ∀ (i4_4 : Int32) (i5_4 : Int32), J_X7_newInLine_31 N i4_4 i5_4 = some y3 → ∀ (H : Heap) (locs : List Loc) (ls : Array Slot), kk_wd G A s.heap [(a0, .inr (7, [.ref a1, .ref a4, .ref a22, .ref a24, .ref a38, .int x_fingerprintMask, .int x_built])), (a1, .inr (4, [.ref a2, .int x_sorted_size])), (a2, .inr (6, [.ref a3])), (a3, .inl (cI, 120, .inl f_sorted_places))] H locs → lv_has ls 6 [(0, .ref a0), (1, .int i1), (2, .int i2), (3, .int i3), (4, .int i4_4), (5, .int i5_4)] → W p l e (kk_rm 3 0 0 65) s m ([.ref a0, .int i1, .int i2, .int i3] : List Value).toArray below meth c H locs 0 0 Q (F0 m 31 ls []) := by
        intro i4_4 i5_4 hF1 H locs ls hw hl
        unfold J_X7_newInLine_31 at hF1
        refine lv_iinc (v := (i5_4 + 1)) (lv' := [(5, .int (i5_4 + 1)), (0, .ref a0), (1, .int i1), (2, .int i2), (3, .int i3), (4, .int i4_4)]) hx hb dX7_newInLine_31 hl (k := 5) rfl rfl (by decide) rfl (fun ls hl => ?_)
        refine lv_goto (tgt := 6) hx hb dX7_newInLine_34 (by decide) ?_
        have hy := Option.some.inj hF1
        subst hy
        exact ih3 i4_4 (i5_4 + 1) hI1 _ _ _ hw (lv_sub hl [1, 2, 3, 4, 5, 0] rfl)
      refine lv_iload hx hb dX7_newInLine_6 (lv_at hl 5 rfl) ?_
      refine lv_iload_n hx hb dX7_newInLine_8 rfl (lv_at hl 3 rfl) ?_
      refine lv_icmp_ge (tgt := 37) hx hb dX7_newInLine_9 (by decide) (fun c5 => ?_) (fun c5 => ?_)
      · have hF1 := (if_pos c5).symm.trans hF1
        have hy := Option.some.inj hF1
        subst hy
        have hz := Option.some.inj hI1
        subst hz
        exact hJ1 i4_3 hF0 _ _ _ hw (lv_sub hl [4] rfl)
      · have hF1 := (if_neg c5).symm.trans hF1
        refine lv_aload_n hx hb dX7_newInLine_12 rfl (lv_at hl 0 rfl) ?_
        refine kk_get (T := TX7) F hw ui_X7_newInLine_X7 0 rfl rfl 0 (by decide) m_X7_newInLine_Cond_fieldLink_RX7_10_PerfectPew_sorted_LPerfectPew_KeyList_ rfl dX7_newInLine_13 ?_
        refine lv_iload_n hx hb dX7_newInLine_16 rfl (lv_at hl 1 rfl) ?_
        refine lv_iload hx hb dX7_newInLine_17 (lv_at hl 5 rfl) ?_
        refine lv_iload_n hx hb dX7_newInLine_19 rfl (lv_at hl 2 rfl) ?_
        refine lv_imul hx hb dX7_newInLine_20 ?_
        refine lv_iadd hx hb dX7_newInLine_21 ?_
        obtain ⟨v6, ev6, hF1⟩ := kk_bind hF1
        refine kk_callI 0 0 hw (kk_runN (As := [.int (i1 + (i5_3 * i2))]) (rest := []) F hw hl.1 (c_X4_holds l G cI cJ ad a1 a2 a3 x_sorted_size f_sorted_places (i1 + (i5_3 * i2)) N v6 ev6 H.size) gX7_newInLine_X4_holds_n52 rfl nl_21 m_X7_newInLine_Cond_initialized_yX4_holds_cls m_X7_newInLine_Cond_instanceMethod_yX4_holds m_X7_newInLine_Cond_selects_RX4_yX4_holds_yX4_holds md_X4_holds ⟨Nat.le_of_ble_eq_true rfl, Nat.le_of_ble_eq_true rfl⟩ ⟨Nat.le_of_ble_eq_true rfl, Nat.le_of_ble_eq_true rfl⟩ 1 4 rfl rfl rfl rfl (Nat.le_of_ble_eq_true rfl) dX7_newInLine_22) ⟨rfl, rfl⟩ [1, 2, 3] (by decide) rfl rfl (fun H locs hw => ?_)
        have hw : kk_wd G A s.heap [(a0, .inr (7, [.ref a1, .ref a4, .ref a22, .ref a24, .ref a38, .int x_fingerprintMask, .int x_built])), (a1, .inr (4, [.ref a2, .int x_sorted_size])), (a2, .inr (6, [.ref a3])), (a3, .inl (cI, 120, .inl f_sorted_places))] H locs := hw
        refine lv_if_ne (tgt := 31) hx hb dX7_newInLine_25 (by decide) (fun c7 => ?_) (fun c7 => ?_)
        · have hF1 := (if_neg c7).symm.trans hF1
          exact hJ4 i4_3 i5_3 hF1 _ _ _ hw (lv_sub hl [0, 1, 2, 3, 4, 5] rfl)
        · have hF1 := (if_pos c7).symm.trans hF1
          refine lv_iinc (v := (i4_3 + 1)) (lv' := [(4, .int (i4_3 + 1)), (0, .ref a0), (1, .int i1), (2, .int i2), (3, .int i3), (5, .int i5_3)]) hx hb dX7_newInLine_28 hl (k := 4) rfl rfl (by decide) rfl (fun ls hl => ?_)
          exact hJ4 (i4_3 + 1) i5_3 hF1 _ _ _ hw (lv_sub hl [1, 2, 3, 4, 0, 5] rfl)
  exact hL3 N 0 0 hz3 _ _ _ hw (lv_sub hl [2, 3, 4, 5, 1, 0] rfl)
theorem ui_X7_requireRoomFor_X7 : ∀ w ∈ u_ws RX7 TX7 7, w ∈ wsX7_requireRoomFor := by decide +kernel
theorem m_X7_requireRoomFor_Cond_fieldLink_RX7_10_PerfectPew_sorted_LPerfectPew_KeyList_ : Cond.fieldLink RX7 10 "PerfectPew" "sorted" "LPerfectPew$KeyList;" ∈ wsX7_requireRoomFor := by decide +kernel
theorem ui_X7_requireRoomFor_X4 : ∀ w ∈ u_ws RX4 TX4 2, w ∈ wsX7_requireRoomFor := by decide +kernel
set_option maxRecDepth 100000 in
set_option maxHeartbeats 4000000 in
theorem c_X7_requireRoomFor (l : Launch) (G : va_G) (cI cJ : ClassId) (ad : Nat → Nat) (a0 a1 a2 a4 a22 a24 a38 : Nat) (x_fingerprintMask : Int32) (x_built : Int32) (x_sorted_size : Int32) (i1 : Int32) (N : Nat) (x : Unit) (hF0 : F_X7_requireRoomFor N x_sorted_size i1 = some x) : kk_V l yX7_requireRoomFor wsX7_requireRoomFor 0 0 0 0 [.ref a0, .int i1] G cI cJ ad [(a0, .inr (7, [.ref a1, .ref a4, .ref a22, .ref a24, .ref a38, .int x_fingerprintMask, .int x_built])), (a1, .inr (4, [.ref a2, .int x_sorted_size]))] [(a0, .inr (7, [.ref a1, .ref a4, .ref a22, .ref a24, .ref a38, .int x_fingerprintMask, .int x_built])), (a1, .inr (4, [.ref a2, .int x_sorted_size]))] := by
  refine kk_ofV (cc := cX7_requireRoomFor) (maxL := 2) (by decide) rfl (Nat.le_of_ble_eq_true rfl) ?_
  intro p e s m below meth c A Q ls H locs hx hb hml hown hts hE hw hl hret
  have F : kk_at p m c cX7_requireRoomFor 2 s _ wsX7_requireRoomFor RX7 G cI cJ ad A := ⟨⟨hx, hb, hml, hown, hts⟩, hE⟩
  have hl : lv_has ls 2 [(0, .ref a0), (1, .int i1)] := hl
  unfold F_X7_requireRoomFor at hF0
  refine lv_aload_n hx hb dX7_requireRoomFor_0 rfl (lv_at hl 0 rfl) ?_
  refine kk_get (T := TX7) F hw ui_X7_requireRoomFor_X7 0 rfl rfl 0 (by decide) m_X7_requireRoomFor_Cond_fieldLink_RX7_10_PerfectPew_sorted_LPerfectPew_KeyList_ rfl dX7_requireRoomFor_1 ?_
  refine kk_getN (T := TX4) F hw ui_X7_requireRoomFor_X4 1 rfl rfl 1 (by decide) nl_2 rfl dX7_requireRoomFor_4 ?_
  refine lv_iload_n hx hb dX7_requireRoomFor_7 rfl (lv_at hl 1 rfl) ?_
  refine lv_iadd hx hb dX7_requireRoomFor_8 ?_
  refine lv_bipush (v := 120) hx hb dX7_requireRoomFor_9 (by decide) ?_
  refine lv_icmp_le (tgt := 24) hx hb dX7_requireRoomFor_11 (by decide) (fun c1 => ?_) (fun c1 => ?_)
  · have hF0 := (if_pos c1).symm.trans hF0
    have hy := Option.some.inj hF0
    subst hy
    exact hret dX7_requireRoomFor_24 (by decide) (by decide) hw
  · have hF0 := (if_neg c1).symm.trans hF0
    cases hF0
theorem ui_X7_addLine_X7 : ∀ w ∈ u_ws RX7 TX7 7, w ∈ wsX7_addLine := by decide +kernel
theorem m_X7_addLine_Cond_fieldLink_RX7_10_PerfectPew_sorted_LPerfectPew_KeyList_ : Cond.fieldLink RX7 10 "PerfectPew" "sorted" "LPerfectPew$KeyList;" ∈ wsX7_addLine := by decide +kernel
theorem ui_X7_addLine_X4 : ∀ w ∈ u_ws RX4 TX4 2, w ∈ wsX7_addLine := by decide +kernel
theorem m_X7_addLine_Cond_initialized_yX4_insert_cls : Cond.initialized yX4_insert.cls ∈ wsX7_addLine := by decide +kernel
theorem m_X7_addLine_Cond_instanceMethod_yX4_insert : Cond.instanceMethod yX4_insert ∈ wsX7_addLine := by decide +kernel
theorem m_X7_addLine_Cond_selects_RX4_yX4_insert_yX4_insert : Cond.selects RX4 yX4_insert yX4_insert ∈ wsX7_addLine := by decide +kernel
theorem m_X7_addLine_Cond_initialized_yX4_holds_cls : Cond.initialized yX4_holds.cls ∈ wsX7_addLine := by decide +kernel
theorem m_X7_addLine_Cond_instanceMethod_yX4_holds : Cond.instanceMethod yX4_holds ∈ wsX7_addLine := by decide +kernel
theorem m_X7_addLine_Cond_selects_RX4_yX4_holds_yX4_holds : Cond.selects RX4 yX4_holds yX4_holds ∈ wsX7_addLine := by decide +kernel
set_option maxRecDepth 100000 in
set_option maxHeartbeats 4000000 in
theorem c_X7_addLine (l : Launch) (G : va_G) (cI cJ : ClassId) (ad : Nat → Nat) (a0 a1 a2 a3 a4 a22 a24 a38 : Nat) (x_fingerprintMask : Int32) (x_built : Int32) (x_sorted_size : Int32) (f_sorted_places : Nat → Int32) (i1 : Int32) (i2 : Int32) (i3 : Int32) (N : Nat) (x : (Int32 × Int32 × (Nat → Int32))) (hF0 : F_X7_addLine N x_built x_sorted_size f_sorted_places i1 i2 i3 = some x) : kk_I l yX7_addLine wsX7_addLine 4 0 0 90 [.ref a0, .int i1, .int i2, .int i3] G cI cJ ad [(a0, .inr (7, [.ref a1, .ref a4, .ref a22, .ref a24, .ref a38, .int x_fingerprintMask, .int x_built])), (a1, .inr (4, [.ref a2, .int x_sorted_size])), (a2, .inr (6, [.ref a3])), (a3, .inl (cI, 120, .inl f_sorted_places))] x.1 [(a0, .inr (7, [.ref a1, .ref a4, .ref a22, .ref a24, .ref a38, .int x_fingerprintMask, .int x_built])), (a1, .inr (4, [.ref a2, .int x.2.1])), (a2, .inr (6, [.ref a3])), (a3, .inl (cI, 120, .inl x.2.2))] := by
  refine kk_ofI (cc := cX7_addLine) (maxL := 6) (by decide) rfl (Nat.le_of_ble_eq_true rfl) ?_
  intro p e s m below meth c A Q ls H locs hx hb hml hown hts hE hw hl hret
  have F : kk_at p m c cX7_addLine 6 s _ wsX7_addLine RX7 G cI cJ ad A := ⟨⟨hx, hb, hml, hown, hts⟩, hE⟩
  have hl : lv_has ls 6 [(0, .ref a0), (1, .int i1), (2, .int i2), (3, .int i3)] := hl
  unfold F_X7_addLine at hF0
  have hJ1 : ∀ (x_sorted_size_1 : Int32) (f_sorted_places_1 : Nat → Int32), J_X7_addLine_65 N x_sorted_size_1 f_sorted_places_1 = some x → ∀ (H : Heap) (locs : List Loc) (ls : Array Slot), kk_wd G A s.heap [(a0, .inr (7, [.ref a1, .ref a4, .ref a22, .ref a24, .ref a38, .int x_fingerprintMask, .int x_built])), (a1, .inr (4, [.ref a2, .int x_sorted_size_1])), (a2, .inr (6, [.ref a3])), (a3, .inl (cI, 120, .inl f_sorted_places_1))] H locs → lv_has ls 6 [(0, .ref a0)] → W p l e (kk_rm 4 0 0 90) s m ([.ref a0, .int i1, .int i2, .int i3] : List Value).toArray below meth c H locs 0 0 Q (F0 m 65 ls []) := by
    intro x_sorted_size_1 f_sorted_places_1 hF0 H locs ls hw hl
    unfold J_X7_addLine_65 at hF0
    refine lv_aload_n hx hb dX7_addLine_65 rfl (lv_at hl 0 rfl) ?_
    refine kk_get (T := TX7) F hw ui_X7_addLine_X7 0 rfl rfl 0 (by decide) m_X7_addLine_Cond_fieldLink_RX7_10_PerfectPew_sorted_LPerfectPew_KeyList_ rfl dX7_addLine_66 ?_
    refine kk_getN (T := TX4) F hw ui_X7_addLine_X4 1 rfl rfl 1 (by decide) nl_2 rfl dX7_addLine_69 ?_
    have hy := Option.some.inj hF0
    subst hy
    exact hret dX7_addLine_72 (by decide) (by decide) hw
  refine lv_iload_n hx hb dX7_addLine_0 rfl (lv_at hl 1 rfl) ?_
  refine lv_iload_n hx hb dX7_addLine_1 rfl (lv_at hl 2 rfl) ?_
  refine lv_iload_n hx hb dX7_addLine_2 rfl (lv_at hl 3 rfl) ?_
  obtain ⟨v2, ev2, hF0⟩ := kk_bind hF0
  refine kk_callV 0 0 hw (kk_runS (As := [.int i1, .int i2, .int i3]) (rest := []) F hw hl.1 (c_X7_requireLine l G cI cJ ad i1 i2 i3 N v2 ev2 H.size) gX7_addLine_X7_requireLine rfl md_X7_requireLine ⟨Nat.le_of_ble_eq_true rfl, Nat.le_of_ble_eq_true rfl⟩ ⟨Nat.le_of_ble_eq_true rfl, Nat.le_of_ble_eq_true rfl⟩ rfl (Nat.le_of_ble_eq_true rfl) dX7_addLine_3) ⟨rfl, rfl⟩ [] (by decide) rfl rfl (fun H locs hw => ?_)
  refine lv_aload_n hx hb dX7_addLine_6 rfl (lv_at hl 0 rfl) ?_
  obtain ⟨v3, ev3, hF0⟩ := kk_bind hF0
  refine kk_callV 0 0 hw (kk_runV (As := []) (rest := []) F hw hl.1 (c_X7_requireOpen l G cI cJ ad a0 a1 a4 a22 a24 a38 x_fingerprintMask x_built N v3 ev3 H.size) gX7_addLine_X7_requireOpen rfl ⟨rfl, md_X7_requireOpen⟩ ⟨Nat.le_of_ble_eq_true rfl, Nat.le_of_ble_eq_true rfl⟩ ⟨Nat.le_of_ble_eq_true rfl, Nat.le_of_ble_eq_true rfl⟩ 0 7 rfl rfl rfl rfl (Nat.le_of_ble_eq_true rfl) dX7_addLine_7) ⟨rfl, rfl⟩ [0] (by decide) rfl rfl (fun H locs hw => ?_)
  have hw : kk_wd G A s.heap [(a0, .inr (7, [.ref a1, .ref a4, .ref a22, .ref a24, .ref a38, .int x_fingerprintMask, .int x_built])), (a1, .inr (4, [.ref a2, .int x_sorted_size])), (a2, .inr (6, [.ref a3])), (a3, .inl (cI, 120, .inl f_sorted_places))] H locs := hw
  refine lv_aload_n hx hb dX7_addLine_10 rfl (lv_at hl 0 rfl) ?_
  refine lv_aload_n hx hb dX7_addLine_11 rfl (lv_at hl 0 rfl) ?_
  refine lv_iload_n hx hb dX7_addLine_12 rfl (lv_at hl 1 rfl) ?_
  refine lv_iload_n hx hb dX7_addLine_13 rfl (lv_at hl 2 rfl) ?_
  refine lv_iload_n hx hb dX7_addLine_14 rfl (lv_at hl 3 rfl) ?_
  obtain ⟨v4, ev4, hF0⟩ := kk_bind hF0
  refine kk_callI 0 0 hw (kk_runV (As := [.int i1, .int i2, .int i3]) (rest := [.ref a0]) F hw hl.1 (c_X7_newInLine l G cI cJ ad a0 a1 a2 a3 a4 a22 a24 a38 x_fingerprintMask x_built x_sorted_size f_sorted_places i1 i2 i3 N v4 ev4 H.size) gX7_addLine_X7_newInLine rfl ⟨rfl, md_X7_newInLine⟩ ⟨Nat.le_of_ble_eq_true rfl, Nat.le_of_ble_eq_true rfl⟩ ⟨Nat.le_of_ble_eq_true rfl, Nat.le_of_ble_eq_true rfl⟩ 0 7 rfl rfl rfl rfl (Nat.le_of_ble_eq_true rfl) dX7_addLine_15) ⟨rfl, rfl⟩ [0, 1, 2, 3] (by decide) rfl rfl (fun H locs hw => ?_)
  have hw : kk_wd G A s.heap [(a0, .inr (7, [.ref a1, .ref a4, .ref a22, .ref a24, .ref a38, .int x_fingerprintMask, .int x_built])), (a1, .inr (4, [.ref a2, .int x_sorted_size])), (a2, .inr (6, [.ref a3])), (a3, .inl (cI, 120, .inl f_sorted_places))] H locs := hw
  obtain ⟨v5, ev5, hF0⟩ := kk_bind hF0
  refine kk_callV 0 0 hw (kk_runV (As := [.int v4]) (rest := []) F hw hl.1 (c_X7_requireRoomFor l G cI cJ ad a0 a1 a2 a4 a22 a24 a38 x_fingerprintMask x_built x_sorted_size v4 N v5 ev5 H.size) gX7_addLine_X7_requireRoomFor rfl ⟨rfl, md_X7_requireRoomFor⟩ ⟨Nat.le_of_ble_eq_true rfl, Nat.le_of_ble_eq_true rfl⟩ ⟨Nat.le_of_ble_eq_true rfl, Nat.le_of_ble_eq_true rfl⟩ 0 7 rfl rfl rfl rfl (Nat.le_of_ble_eq_true rfl) dX7_addLine_18) ⟨rfl, rfl⟩ [0, 1] (by decide) rfl rfl (fun H locs hw => ?_)
  have hw : kk_wd G A s.heap [(a0, .inr (7, [.ref a1, .ref a4, .ref a22, .ref a24, .ref a38, .int x_fingerprintMask, .int x_built])), (a1, .inr (4, [.ref a2, .int x_sorted_size])), (a2, .inr (6, [.ref a3])), (a3, .inl (cI, 120, .inl f_sorted_places))] H locs := hw
  refine lv_iconst (v := 0) hx hb dX7_addLine_21 (by decide) ?_
  refine lv_istore (lv' := [(4, .int 0), (0, .ref a0), (1, .int i1), (2, .int i2), (3, .int i3)]) hx hb dX7_addLine_22 hl (by decide) rfl (fun ls hl => ?_)
  obtain ⟨z6, hz7, hF0⟩ := kk_bind hF0
  have hL7 : ∀ (n7 : Nat) (x_sorted_size_7 : Int32) (f_sorted_places_7 : Nat → Int32) (i4_7 : Int32), kk_iter (fun (σ : (Int32 × (Nat → Int32) × Int32)) => L_X7_addLine_24 N i1 i2 i3 σ.1 σ.2.1 σ.2.2) n7 (x_sorted_size_7, f_sorted_places_7, i4_7) = some z6 → ∀ (H : Heap) (locs : List Loc) (ls : Array Slot), kk_wd G A s.heap [(a0, .inr (7, [.ref a1, .ref a4, .ref a22, .ref a24, .ref a38, .int x_fingerprintMask, .int x_built])), (a1, .inr (4, [.ref a2, .int x_sorted_size_7])), (a2, .inr (6, [.ref a3])), (a3, .inl (cI, 120, .inl f_sorted_places_7))] H locs → lv_has ls 6 [(0, .ref a0), (1, .int i1), (2, .int i2), (3, .int i3), (4, .int i4_7)] → W p l e (kk_rm 4 0 0 90) s m ([.ref a0, .int i1, .int i2, .int i3] : List Value).toArray below meth c H locs 0 0 Q (F0 m 24 ls []) := by
    intro n7
    induction n7 with
    | zero => intro x_sorted_size_7 f_sorted_places_7 i4_7 h; exact kk_iter0 h
    | succ n7 ih7 =>
      intro x_sorted_size_7 f_sorted_places_7 i4_7 hq H locs ls hw hl
      obtain ⟨y7, hF1, hI1⟩ := kk_iterS hq
      have hF1 : L_X7_addLine_24 N i1 i2 i3 x_sorted_size_7 f_sorted_places_7 i4_7 = some y7 := hF1
      unfold L_X7_addLine_24 at hF1
      have hJ8 : ∀ (x_sorted_size_8 : Int32) (f_sorted_places_8 : Nat → Int32) (i4_8 : Int32), J_X7_addLine_59 N x_sorted_size_8 f_sorted_places_8 i4_8 = some y7 → ∀ (H : Heap) (locs : List Loc) (ls : Array Slot), kk_wd G A s.heap [(a0, .inr (7, [.ref a1, .ref a4, .ref a22, .ref a24, .ref a38, .int x_fingerprintMask, .int x_built])), (a1, .inr (4, [.ref a2, .int x_sorted_size_8])), (a2, .inr (6, [.ref a3])), (a3, .inl (cI, 120, .inl f_sorted_places_8))] H locs → lv_has ls 6 [(0, .ref a0), (1, .int i1), (2, .int i2), (3, .int i3), (4, .int i4_8)] → W p l e (kk_rm 4 0 0 90) s m ([.ref a0, .int i1, .int i2, .int i3] : List Value).toArray below meth c H locs 0 0 Q (F0 m 59 ls []) := by
        intro x_sorted_size_8 f_sorted_places_8 i4_8 hF1 H locs ls hw hl
        unfold J_X7_addLine_59 at hF1
        refine lv_iinc (v := (i4_8 + 1)) (lv' := [(4, .int (i4_8 + 1)), (0, .ref a0), (1, .int i1), (2, .int i2), (3, .int i3)]) hx hb dX7_addLine_59 hl (k := 4) rfl rfl (by decide) rfl (fun ls hl => ?_)
        refine lv_goto (tgt := 24) hx hb dX7_addLine_62 (by decide) ?_
        have hy := Option.some.inj hF1
        subst hy
        exact ih7 x_sorted_size_8 f_sorted_places_8 (i4_8 + 1) hI1 _ _ _ hw (lv_sub hl [1, 2, 3, 4, 0] rfl)
      refine lv_iload hx hb dX7_addLine_24 (lv_at hl 4 rfl) ?_
      refine lv_iload_n hx hb dX7_addLine_26 rfl (lv_at hl 3 rfl) ?_
      refine lv_icmp_ge (tgt := 65) hx hb dX7_addLine_27 (by decide) (fun c9 => ?_) (fun c9 => ?_)
      · have hF1 := (if_pos c9).symm.trans hF1
        have hy := Option.some.inj hF1
        subst hy
        have hz := Option.some.inj hI1
        subst hz
        exact hJ1 x_sorted_size_7 f_sorted_places_7 hF0 _ _ _ hw (lv_sub hl [0] rfl)
      · have hF1 := (if_neg c9).symm.trans hF1
        refine lv_iload_n hx hb dX7_addLine_30 rfl (lv_at hl 1 rfl) ?_
        refine lv_iload hx hb dX7_addLine_31 (lv_at hl 4 rfl) ?_
        refine lv_iload_n hx hb dX7_addLine_33 rfl (lv_at hl 2 rfl) ?_
        refine lv_imul hx hb dX7_addLine_34 ?_
        refine lv_iadd hx hb dX7_addLine_35 ?_
        refine lv_istore (lv' := [(5, .int (i1 + (i4_7 * i2))), (0, .ref a0), (1, .int i1), (2, .int i2), (3, .int i3), (4, .int i4_7)]) hx hb dX7_addLine_36 hl (by decide) rfl (fun ls hl => ?_)
        refine lv_aload_n hx hb dX7_addLine_38 rfl (lv_at hl 1 rfl) ?_
        refine kk_get (T := TX7) F hw ui_X7_addLine_X7 0 rfl rfl 0 (by decide) m_X7_addLine_Cond_fieldLink_RX7_10_PerfectPew_sorted_LPerfectPew_KeyList_ rfl dX7_addLine_39 ?_
        refine lv_iload hx hb dX7_addLine_42 (lv_at hl 0 rfl) ?_
        obtain ⟨v10, ev10, hF1⟩ := kk_bind hF1
        refine kk_callI 0 0 hw (kk_runN (As := [.int (i1 + (i4_7 * i2))]) (rest := []) F hw hl.1 (c_X4_holds l G cI cJ ad a1 a2 a3 x_sorted_size_7 f_sorted_places_7 (i1 + (i4_7 * i2)) N v10 ev10 H.size) gX7_addLine_X4_holds_n52 rfl nl_21 m_X7_addLine_Cond_initialized_yX4_holds_cls m_X7_addLine_Cond_instanceMethod_yX4_holds m_X7_addLine_Cond_selects_RX4_yX4_holds_yX4_holds md_X4_holds ⟨Nat.le_of_ble_eq_true rfl, Nat.le_of_ble_eq_true rfl⟩ ⟨Nat.le_of_ble_eq_true rfl, Nat.le_of_ble_eq_true rfl⟩ 1 4 rfl rfl rfl rfl (Nat.le_of_ble_eq_true rfl) dX7_addLine_44) ⟨rfl, rfl⟩ [1, 2, 3] (by decide) rfl rfl (fun H locs hw => ?_)
        have hw : kk_wd G A s.heap [(a0, .inr (7, [.ref a1, .ref a4, .ref a22, .ref a24, .ref a38, .int x_fingerprintMask, .int x_built])), (a1, .inr (4, [.ref a2, .int x_sorted_size_7])), (a2, .inr (6, [.ref a3])), (a3, .inl (cI, 120, .inl f_sorted_places_7))] H locs := hw
        refine lv_if_ne (tgt := 59) hx hb dX7_addLine_47 (by decide) (fun c11 => ?_) (fun c11 => ?_)
        · have hF1 := (if_neg c11).symm.trans hF1
          exact hJ8 x_sorted_size_7 f_sorted_places_7 i4_7 hF1 _ _ _ hw (lv_sub hl [1, 2, 3, 4, 5] rfl)
        · have hF1 := (if_pos c11).symm.trans hF1
          refine lv_aload_n hx hb dX7_addLine_50 rfl (lv_at hl 1 rfl) ?_
          refine kk_get (T := TX7) F hw ui_X7_addLine_X7 0 rfl rfl 0 (by decide) m_X7_addLine_Cond_fieldLink_RX7_10_PerfectPew_sorted_LPerfectPew_KeyList_ rfl dX7_addLine_51 ?_
          refine lv_iload hx hb dX7_addLine_54 (lv_at hl 0 rfl) ?_
          obtain ⟨v12, ev12, hF1⟩ := kk_bind hF1
          refine kk_callV 0 0 hw (kk_runN (As := [.int (i1 + (i4_7 * i2))]) (rest := []) F hw hl.1 (c_X4_insert l G cI cJ ad a1 a2 a3 x_sorted_size_7 f_sorted_places_7 (i1 + (i4_7 * i2)) N v12 ev12 H.size) gX7_addLine_X4_insert_n66 rfl nl_23 m_X7_addLine_Cond_initialized_yX4_insert_cls m_X7_addLine_Cond_instanceMethod_yX4_insert m_X7_addLine_Cond_selects_RX4_yX4_insert_yX4_insert md_X4_insert ⟨Nat.le_of_ble_eq_true rfl, Nat.le_of_ble_eq_true rfl⟩ ⟨Nat.le_of_ble_eq_true rfl, Nat.le_of_ble_eq_true rfl⟩ 1 4 rfl rfl rfl rfl (Nat.le_of_ble_eq_true rfl) dX7_addLine_56) ⟨rfl, rfl⟩ [1, 2, 3] (by decide) rfl rfl (fun H locs hw => ?_)
          have hw : kk_wd G A s.heap [(a0, .inr (7, [.ref a1, .ref a4, .ref a22, .ref a24, .ref a38, .int x_fingerprintMask, .int x_built])), (a1, .inr (4, [.ref a2, .int v12.1])), (a2, .inr (6, [.ref a3])), (a3, .inl (cI, 120, .inl v12.2))] H locs := hw
          exact hJ8 v12.1 v12.2 i4_7 hF1 _ _ _ hw (lv_sub hl [1, 2, 3, 4, 5] rfl)
  exact hL7 N x_sorted_size f_sorted_places 0 hz7 _ _ _ hw (lv_sub hl [1, 2, 3, 4, 0] rfl)
theorem ui_X7_remove_X7 : ∀ w ∈ u_ws RX7 TX7 7, w ∈ wsX7_remove := by decide +kernel
theorem m_X7_remove_Cond_fieldLink_RX7_10_PerfectPew_sorted_LPerfectPew_KeyList_ : Cond.fieldLink RX7 10 "PerfectPew" "sorted" "LPerfectPew$KeyList;" ∈ wsX7_remove := by decide +kernel
theorem ui_X7_remove_X4 : ∀ w ∈ u_ws RX4 TX4 2, w ∈ wsX7_remove := by decide +kernel
theorem m_X7_remove_Cond_initialized_yX4_delete_cls : Cond.initialized yX4_delete.cls ∈ wsX7_remove := by decide +kernel
theorem m_X7_remove_Cond_instanceMethod_yX4_delete : Cond.instanceMethod yX4_delete ∈ wsX7_remove := by decide +kernel
theorem m_X7_remove_Cond_selects_RX4_yX4_delete_yX4_delete : Cond.selects RX4 yX4_delete yX4_delete ∈ wsX7_remove := by decide +kernel
theorem m_X7_remove_Cond_initialized_yX4_holds_cls : Cond.initialized yX4_holds.cls ∈ wsX7_remove := by decide +kernel
theorem m_X7_remove_Cond_instanceMethod_yX4_holds : Cond.instanceMethod yX4_holds ∈ wsX7_remove := by decide +kernel
theorem m_X7_remove_Cond_selects_RX4_yX4_holds_yX4_holds : Cond.selects RX4 yX4_holds yX4_holds ∈ wsX7_remove := by decide +kernel
set_option maxRecDepth 100000 in
set_option maxHeartbeats 4000000 in
theorem c_X7_remove (l : Launch) (G : va_G) (cI cJ : ClassId) (ad : Nat → Nat) (a0 a1 a2 a3 a4 a22 a24 a38 : Nat) (x_fingerprintMask : Int32) (x_built : Int32) (x_sorted_size : Int32) (f_sorted_places : Nat → Int32) (i1 : Int32) (N : Nat) (x : (Int32 × Int32 × (Nat → Int32))) (hF0 : F_X7_remove N x_built x_sorted_size f_sorted_places i1 = some x) : kk_I l yX7_remove wsX7_remove 3 0 0 65 [.ref a0, .int i1] G cI cJ ad [(a0, .inr (7, [.ref a1, .ref a4, .ref a22, .ref a24, .ref a38, .int x_fingerprintMask, .int x_built])), (a1, .inr (4, [.ref a2, .int x_sorted_size])), (a2, .inr (6, [.ref a3])), (a3, .inl (cI, 120, .inl f_sorted_places))] x.1 [(a0, .inr (7, [.ref a1, .ref a4, .ref a22, .ref a24, .ref a38, .int x_fingerprintMask, .int x_built])), (a1, .inr (4, [.ref a2, .int x.2.1])), (a2, .inr (6, [.ref a3])), (a3, .inl (cI, 120, .inl x.2.2))] := by
  refine kk_ofI (cc := cX7_remove) (maxL := 2) (by decide) rfl (Nat.le_of_ble_eq_true rfl) ?_
  intro p e s m below meth c A Q ls H locs hx hb hml hown hts hE hw hl hret
  have F : kk_at p m c cX7_remove 2 s _ wsX7_remove RX7 G cI cJ ad A := ⟨⟨hx, hb, hml, hown, hts⟩, hE⟩
  have hl : lv_has ls 2 [(0, .ref a0), (1, .int i1)] := hl
  unfold F_X7_remove at hF0
  refine lv_iload_n hx hb dX7_remove_0 rfl (lv_at hl 1 rfl) ?_
  obtain ⟨v1, ev1, hF0⟩ := kk_bind hF0
  refine kk_callV 0 0 hw (kk_runS (As := [.int i1]) (rest := []) F hw hl.1 (c_X7_requireKey l G cI cJ ad i1 N v1 ev1 H.size) gX7_remove_X7_requireKey rfl md_X7_requireKey ⟨Nat.le_of_ble_eq_true rfl, Nat.le_of_ble_eq_true rfl⟩ ⟨Nat.le_of_ble_eq_true rfl, Nat.le_of_ble_eq_true rfl⟩ rfl (Nat.le_of_ble_eq_true rfl) dX7_remove_1) ⟨rfl, rfl⟩ [] (by decide) rfl rfl (fun H locs hw => ?_)
  refine lv_aload_n hx hb dX7_remove_4 rfl (lv_at hl 0 rfl) ?_
  obtain ⟨v2, ev2, hF0⟩ := kk_bind hF0
  refine kk_callV 0 0 hw (kk_runV (As := []) (rest := []) F hw hl.1 (c_X7_requireOpen l G cI cJ ad a0 a1 a4 a22 a24 a38 x_fingerprintMask x_built N v2 ev2 H.size) gX7_remove_X7_requireOpen rfl ⟨rfl, md_X7_requireOpen⟩ ⟨Nat.le_of_ble_eq_true rfl, Nat.le_of_ble_eq_true rfl⟩ ⟨Nat.le_of_ble_eq_true rfl, Nat.le_of_ble_eq_true rfl⟩ 0 7 rfl rfl rfl rfl (Nat.le_of_ble_eq_true rfl) dX7_remove_5) ⟨rfl, rfl⟩ [0] (by decide) rfl rfl (fun H locs hw => ?_)
  have hw : kk_wd G A s.heap [(a0, .inr (7, [.ref a1, .ref a4, .ref a22, .ref a24, .ref a38, .int x_fingerprintMask, .int x_built])), (a1, .inr (4, [.ref a2, .int x_sorted_size])), (a2, .inr (6, [.ref a3])), (a3, .inl (cI, 120, .inl f_sorted_places))] H locs := hw
  refine lv_aload_n hx hb dX7_remove_8 rfl (lv_at hl 0 rfl) ?_
  refine kk_get (T := TX7) F hw ui_X7_remove_X7 0 rfl rfl 0 (by decide) m_X7_remove_Cond_fieldLink_RX7_10_PerfectPew_sorted_LPerfectPew_KeyList_ rfl dX7_remove_9 ?_
  refine lv_iload_n hx hb dX7_remove_12 rfl (lv_at hl 1 rfl) ?_
  obtain ⟨v3, ev3, hF0⟩ := kk_bind hF0
  refine kk_callI 0 0 hw (kk_runN (As := [.int i1]) (rest := []) F hw hl.1 (c_X4_holds l G cI cJ ad a1 a2 a3 x_sorted_size f_sorted_places i1 N v3 ev3 H.size) gX7_remove_X4_holds_n52 rfl nl_21 m_X7_remove_Cond_initialized_yX4_holds_cls m_X7_remove_Cond_instanceMethod_yX4_holds m_X7_remove_Cond_selects_RX4_yX4_holds_yX4_holds md_X4_holds ⟨Nat.le_of_ble_eq_true rfl, Nat.le_of_ble_eq_true rfl⟩ ⟨Nat.le_of_ble_eq_true rfl, Nat.le_of_ble_eq_true rfl⟩ 1 4 rfl rfl rfl rfl (Nat.le_of_ble_eq_true rfl) dX7_remove_13) ⟨rfl, rfl⟩ [1, 2, 3] (by decide) rfl rfl (fun H locs hw => ?_)
  have hw : kk_wd G A s.heap [(a0, .inr (7, [.ref a1, .ref a4, .ref a22, .ref a24, .ref a38, .int x_fingerprintMask, .int x_built])), (a1, .inr (4, [.ref a2, .int x_sorted_size])), (a2, .inr (6, [.ref a3])), (a3, .inl (cI, 120, .inl f_sorted_places))] H locs := hw
  refine lv_if_ne (tgt := 29) hx hb dX7_remove_16 (by decide) (fun c4 => ?_) (fun c4 => ?_)
  · have hF0 := (if_neg c4).symm.trans hF0
    refine lv_aload_n hx hb dX7_remove_29 rfl (lv_at hl 0 rfl) ?_
    refine kk_get (T := TX7) F hw ui_X7_remove_X7 0 rfl rfl 0 (by decide) m_X7_remove_Cond_fieldLink_RX7_10_PerfectPew_sorted_LPerfectPew_KeyList_ rfl dX7_remove_30 ?_
    refine lv_iload_n hx hb dX7_remove_33 rfl (lv_at hl 1 rfl) ?_
    obtain ⟨v5, ev5, hF0⟩ := kk_bind hF0
    refine kk_callV 0 0 hw (kk_runN (As := [.int i1]) (rest := []) F hw hl.1 (c_X4_delete l G cI cJ ad a1 a2 a3 x_sorted_size f_sorted_places i1 N v5 ev5 H.size) gX7_remove_X4_delete_n83 rfl nl_25 m_X7_remove_Cond_initialized_yX4_delete_cls m_X7_remove_Cond_instanceMethod_yX4_delete m_X7_remove_Cond_selects_RX4_yX4_delete_yX4_delete md_X4_delete ⟨Nat.le_of_ble_eq_true rfl, Nat.le_of_ble_eq_true rfl⟩ ⟨Nat.le_of_ble_eq_true rfl, Nat.le_of_ble_eq_true rfl⟩ 1 4 rfl rfl rfl rfl (Nat.le_of_ble_eq_true rfl) dX7_remove_34) ⟨rfl, rfl⟩ [1, 2, 3] (by decide) rfl rfl (fun H locs hw => ?_)
    have hw : kk_wd G A s.heap [(a0, .inr (7, [.ref a1, .ref a4, .ref a22, .ref a24, .ref a38, .int x_fingerprintMask, .int x_built])), (a1, .inr (4, [.ref a2, .int v5.1])), (a2, .inr (6, [.ref a3])), (a3, .inl (cI, 120, .inl v5.2))] H locs := hw
    refine lv_aload_n hx hb dX7_remove_37 rfl (lv_at hl 0 rfl) ?_
    refine kk_get (T := TX7) F hw ui_X7_remove_X7 0 rfl rfl 0 (by decide) m_X7_remove_Cond_fieldLink_RX7_10_PerfectPew_sorted_LPerfectPew_KeyList_ rfl dX7_remove_38 ?_
    refine kk_getN (T := TX4) F hw ui_X7_remove_X4 1 rfl rfl 1 (by decide) nl_2 rfl dX7_remove_41 ?_
    have hy := Option.some.inj hF0
    subst hy
    exact hret dX7_remove_44 (by decide) (by decide) hw
  · have hF0 := (if_pos c4).symm.trans hF0
    cases hF0
theorem ui_X7_keys_X7 : ∀ w ∈ u_ws RX7 TX7 7, w ∈ wsX7_keys := by decide +kernel
theorem m_X7_keys_Cond_fieldLink_RX7_10_PerfectPew_sorted_LPerfectPew_KeyList_ : Cond.fieldLink RX7 10 "PerfectPew" "sorted" "LPerfectPew$KeyList;" ∈ wsX7_keys := by decide +kernel
theorem ui_X7_keys_X4 : ∀ w ∈ u_ws RX4 TX4 2, w ∈ wsX7_keys := by decide +kernel
set_option maxRecDepth 100000 in
set_option maxHeartbeats 4000000 in
theorem c_X7_keys (l : Launch) (G : va_G) (cI cJ : ClassId) (ad : Nat → Nat) (a0 a1 a2 a4 a22 a24 a38 : Nat) (x_fingerprintMask : Int32) (x_built : Int32) (x_sorted_size : Int32) (N : Nat) (x : Int32) (hF0 : F_X7_keys N x_sorted_size = some x) : kk_I l yX7_keys wsX7_keys 0 0 0 0 [.ref a0] G cI cJ ad [(a0, .inr (7, [.ref a1, .ref a4, .ref a22, .ref a24, .ref a38, .int x_fingerprintMask, .int x_built])), (a1, .inr (4, [.ref a2, .int x_sorted_size]))] x [(a0, .inr (7, [.ref a1, .ref a4, .ref a22, .ref a24, .ref a38, .int x_fingerprintMask, .int x_built])), (a1, .inr (4, [.ref a2, .int x_sorted_size]))] := by
  refine kk_ofI (cc := cX7_keys) (maxL := 1) (by decide) rfl (Nat.le_of_ble_eq_true rfl) ?_
  intro p e s m below meth c A Q ls H locs hx hb hml hown hts hE hw hl hret
  have F : kk_at p m c cX7_keys 1 s _ wsX7_keys RX7 G cI cJ ad A := ⟨⟨hx, hb, hml, hown, hts⟩, hE⟩
  have hl : lv_has ls 1 [(0, .ref a0)] := hl
  unfold F_X7_keys at hF0
  refine lv_aload_n hx hb dX7_keys_0 rfl (lv_at hl 0 rfl) ?_
  refine kk_get (T := TX7) F hw ui_X7_keys_X7 0 rfl rfl 0 (by decide) m_X7_keys_Cond_fieldLink_RX7_10_PerfectPew_sorted_LPerfectPew_KeyList_ rfl dX7_keys_1 ?_
  refine kk_getN (T := TX4) F hw ui_X7_keys_X4 1 rfl rfl 1 (by decide) nl_2 rfl dX7_keys_4 ?_
  have hy := Option.some.inj hF0
  subst hy
  exact hret dX7_keys_7 (by decide) (by decide) hw
set_option maxRecDepth 100000 in
set_option maxHeartbeats 4000000 in
theorem c_X7_requireBelow (l : Launch) (G : va_G) (cI cJ : ClassId) (ad : Nat → Nat) (i0 : Int32) (i1 : Int32) (N : Nat) (x : Unit) (hF0 : F_X7_requireBelow N i0 i1 = some x) : kk_V l yX7_requireBelow wsX7_requireBelow 0 0 0 0 [.int i0, .int i1] G cI cJ ad [] [] := by
  refine kk_ofV (cc := cX7_requireBelow) (maxL := 2) (by decide) rfl (Nat.le_of_ble_eq_true rfl) ?_
  intro p e s m below meth c A Q ls H locs hx hb hml hown hts hE hw hl hret
  have F : kk_at p m c cX7_requireBelow 2 s _ wsX7_requireBelow RX7 G cI cJ ad A := ⟨⟨hx, hb, hml, hown, hts⟩, hE⟩
  have hl : lv_has ls 2 [(0, .int i0), (1, .int i1)] := hl
  unfold F_X7_requireBelow at hF0
  have hJ1 : ∀ (_ : Unit), J_X7_requireBelow_9 N = some x → ∀ (H : Heap) (locs : List Loc) (ls : Array Slot), kk_wd G A s.heap [] H locs → lv_has ls 2 [] → W p l e (kk_rm 0 0 0 0) s m ([.int i0, .int i1] : List Value).toArray below meth c H locs 0 0 Q (F0 m 9 ls []) := by
    intro _ hF0 H locs ls hw hl
    unfold J_X7_requireBelow_9 at hF0
    cases hF0
  refine lv_iload_n hx hb dX7_requireBelow_0 rfl (lv_at hl 0 rfl) ?_
  refine lv_if_lt (tgt := 9) hx hb dX7_requireBelow_1 (by decide) (fun c2 => ?_) (fun c2 => ?_)
  · have hF0 := (if_pos c2).symm.trans hF0
    exact hJ1 ()  hF0 _ _ _ hw (lv_sub hl [] rfl)
  · have hF0 := (if_neg c2).symm.trans hF0
    refine lv_iload_n hx hb dX7_requireBelow_4 rfl (lv_at hl 0 rfl) ?_
    refine lv_iload_n hx hb dX7_requireBelow_5 rfl (lv_at hl 1 rfl) ?_
    refine lv_icmp_lt (tgt := 19) hx hb dX7_requireBelow_6 (by decide) (fun c3 => ?_) (fun c3 => ?_)
    · have hF0 := (if_pos c3).symm.trans hF0
      have hy := Option.some.inj hF0
      subst hy
      exact hret dX7_requireBelow_19 (by decide) (by decide) hw
    · have hF0 := (if_neg c3).symm.trans hF0
      exact hJ1 ()  hF0 _ _ _ hw (lv_sub hl [] rfl)
theorem ui_X7_keyAt_X7 : ∀ w ∈ u_ws RX7 TX7 7, w ∈ wsX7_keyAt := by decide +kernel
theorem m_X7_keyAt_Cond_fieldLink_RX7_10_PerfectPew_sorted_LPerfectPew_KeyList_ : Cond.fieldLink RX7 10 "PerfectPew" "sorted" "LPerfectPew$KeyList;" ∈ wsX7_keyAt := by decide +kernel
theorem ui_X7_keyAt_X4 : ∀ w ∈ u_ws RX4 TX4 2, w ∈ wsX7_keyAt := by decide +kernel
theorem m_X7_keyAt_Cond_initialized_yX4_at_cls : Cond.initialized yX4_at.cls ∈ wsX7_keyAt := by decide +kernel
theorem m_X7_keyAt_Cond_instanceMethod_yX4_at : Cond.instanceMethod yX4_at ∈ wsX7_keyAt := by decide +kernel
theorem m_X7_keyAt_Cond_selects_RX4_yX4_at_yX4_at : Cond.selects RX4 yX4_at yX4_at ∈ wsX7_keyAt := by decide +kernel
set_option maxRecDepth 100000 in
set_option maxHeartbeats 4000000 in
theorem c_X7_keyAt (l : Launch) (G : va_G) (cI cJ : ClassId) (ad : Nat → Nat) (a0 a1 a2 a3 a4 a22 a24 a38 : Nat) (x_fingerprintMask : Int32) (x_built : Int32) (x_sorted_size : Int32) (f_sorted_places : Nat → Int32) (i1 : Int32) (N : Nat) (x : Int32) (hF0 : F_X7_keyAt N x_sorted_size f_sorted_places i1 = some x) : kk_I l yX7_keyAt wsX7_keyAt 2 0 0 42 [.ref a0, .int i1] G cI cJ ad [(a0, .inr (7, [.ref a1, .ref a4, .ref a22, .ref a24, .ref a38, .int x_fingerprintMask, .int x_built])), (a1, .inr (4, [.ref a2, .int x_sorted_size])), (a2, .inr (6, [.ref a3])), (a3, .inl (cI, 120, .inl f_sorted_places))] x [(a0, .inr (7, [.ref a1, .ref a4, .ref a22, .ref a24, .ref a38, .int x_fingerprintMask, .int x_built])), (a1, .inr (4, [.ref a2, .int x_sorted_size])), (a2, .inr (6, [.ref a3])), (a3, .inl (cI, 120, .inl f_sorted_places))] := by
  refine kk_ofI (cc := cX7_keyAt) (maxL := 2) (by decide) rfl (Nat.le_of_ble_eq_true rfl) ?_
  intro p e s m below meth c A Q ls H locs hx hb hml hown hts hE hw hl hret
  have F : kk_at p m c cX7_keyAt 2 s _ wsX7_keyAt RX7 G cI cJ ad A := ⟨⟨hx, hb, hml, hown, hts⟩, hE⟩
  have hl : lv_has ls 2 [(0, .ref a0), (1, .int i1)] := hl
  unfold F_X7_keyAt at hF0
  refine lv_iload_n hx hb dX7_keyAt_0 rfl (lv_at hl 1 rfl) ?_
  refine lv_aload_n hx hb dX7_keyAt_1 rfl (lv_at hl 0 rfl) ?_
  refine kk_get (T := TX7) F hw ui_X7_keyAt_X7 0 rfl rfl 0 (by decide) m_X7_keyAt_Cond_fieldLink_RX7_10_PerfectPew_sorted_LPerfectPew_KeyList_ rfl dX7_keyAt_2 ?_
  refine kk_getN (T := TX4) F hw ui_X7_keyAt_X4 1 rfl rfl 1 (by decide) nl_2 rfl dX7_keyAt_5 ?_
  obtain ⟨v1, ev1, hF0⟩ := kk_bind hF0
  refine kk_callV 0 0 hw (kk_runS (As := [.int i1, .int x_sorted_size]) (rest := []) F hw hl.1 (c_X7_requireBelow l G cI cJ ad i1 x_sorted_size N v1 ev1 H.size) gX7_keyAt_X7_requireBelow rfl md_X7_requireBelow ⟨Nat.le_of_ble_eq_true rfl, Nat.le_of_ble_eq_true rfl⟩ ⟨Nat.le_of_ble_eq_true rfl, Nat.le_of_ble_eq_true rfl⟩ rfl (Nat.le_of_ble_eq_true rfl) dX7_keyAt_8) ⟨rfl, rfl⟩ [] (by decide) rfl rfl (fun H locs hw => ?_)
  refine lv_aload_n hx hb dX7_keyAt_11 rfl (lv_at hl 0 rfl) ?_
  refine kk_get (T := TX7) F hw ui_X7_keyAt_X7 0 rfl rfl 0 (by decide) m_X7_keyAt_Cond_fieldLink_RX7_10_PerfectPew_sorted_LPerfectPew_KeyList_ rfl dX7_keyAt_12 ?_
  refine lv_iload_n hx hb dX7_keyAt_15 rfl (lv_at hl 1 rfl) ?_
  obtain ⟨v2, ev2, hF0⟩ := kk_bind hF0
  refine kk_callI 0 0 hw (kk_runN (As := [.int i1]) (rest := []) F hw hl.1 (c_X4_at l G cI cJ ad a1 a2 a3 x_sorted_size f_sorted_places i1 N v2 ev2 H.size) gX7_keyAt_X4_at_n90 rfl nl_26 m_X7_keyAt_Cond_initialized_yX4_at_cls m_X7_keyAt_Cond_instanceMethod_yX4_at m_X7_keyAt_Cond_selects_RX4_yX4_at_yX4_at md_X4_at ⟨Nat.le_of_ble_eq_true rfl, Nat.le_of_ble_eq_true rfl⟩ ⟨Nat.le_of_ble_eq_true rfl, Nat.le_of_ble_eq_true rfl⟩ 1 4 rfl rfl rfl rfl (Nat.le_of_ble_eq_true rfl) dX7_keyAt_16) ⟨rfl, rfl⟩ [1, 2, 3] (by decide) rfl rfl (fun H locs hw => ?_)
  have hw : kk_wd G A s.heap [(a0, .inr (7, [.ref a1, .ref a4, .ref a22, .ref a24, .ref a38, .int x_fingerprintMask, .int x_built])), (a1, .inr (4, [.ref a2, .int x_sorted_size])), (a2, .inr (6, [.ref a3])), (a3, .inl (cI, 120, .inl f_sorted_places))] H locs := hw
  have hy := Option.some.inj hF0
  subst hy
  exact hret dX7_keyAt_19 (by decide) (by decide) hw
theorem ui_X7_keyWithNumber_X7 : ∀ w ∈ u_ws RX7 TX7 7, w ∈ wsX7_keyWithNumber := by decide +kernel
theorem m_X7_keyWithNumber_Cond_fieldLink_RX7_10_PerfectPew_sorted_LPerfectPew_KeyList_ : Cond.fieldLink RX7 10 "PerfectPew" "sorted" "LPerfectPew$KeyList;" ∈ wsX7_keyWithNumber := by decide +kernel
theorem m_X7_keyWithNumber_Cond_fieldLink_RX7_19_PerfectPew_displacer_LPerfectPew_Displacer_ : Cond.fieldLink RX7 19 "PerfectPew" "displacer" "LPerfectPew$Displacer;" ∈ wsX7_keyWithNumber := by decide +kernel
theorem ui_X7_keyWithNumber_X0 : ∀ w ∈ u_ws RX0 TX0 9, w ∈ wsX7_keyWithNumber := by decide +kernel
theorem m_X7_keyWithNumber_Cond_initialized_yX4_at_cls : Cond.initialized yX4_at.cls ∈ wsX7_keyWithNumber := by decide +kernel
theorem m_X7_keyWithNumber_Cond_instanceMethod_yX4_at : Cond.instanceMethod yX4_at ∈ wsX7_keyWithNumber := by decide +kernel
theorem m_X7_keyWithNumber_Cond_selects_RX4_yX4_at_yX4_at : Cond.selects RX4 yX4_at yX4_at ∈ wsX7_keyWithNumber := by decide +kernel
theorem m_X7_keyWithNumber_Cond_initialized_yX6_get_cls : Cond.initialized yX6_get.cls ∈ wsX7_keyWithNumber := by decide +kernel
theorem m_X7_keyWithNumber_Cond_instanceMethod_yX6_get : Cond.instanceMethod yX6_get ∈ wsX7_keyWithNumber := by decide +kernel
theorem m_X7_keyWithNumber_Cond_selects_RX6_yX6_get_yX6_get : Cond.selects RX6 yX6_get yX6_get ∈ wsX7_keyWithNumber := by decide +kernel
set_option maxRecDepth 100000 in
set_option maxHeartbeats 4000000 in
theorem c_X7_keyWithNumber (l : Launch) (G : va_G) (cI cJ : ClassId) (ad : Nat → Nat) (a0 a1 a2 a3 a4 a5 a12 a14 a16 a18 a20 a21 a22 a24 a38 : Nat) (x_fingerprintMask : Int32) (x_built : Int32) (x_sorted_size : Int32) (f_sorted_places : Nat → Int32) (x_displacer_keyCount : Int32) (x_displacer_bucketCount : Int32) (x_displacer_seed : Int32) (f_displacer_ranksByNumber : Nat → Int32) (i1 : Int32) (N : Nat) (x : Int32) (hF0 : F_X7_keyWithNumber N f_sorted_places f_displacer_ranksByNumber i1 = some x) : kk_I l yX7_keyWithNumber wsX7_keyWithNumber 2 0 0 42 [.ref a0, .int i1] G cI cJ ad [(a0, .inr (7, [.ref a1, .ref a4, .ref a22, .ref a24, .ref a38, .int x_fingerprintMask, .int x_built])), (a1, .inr (4, [.ref a2, .int x_sorted_size])), (a2, .inr (6, [.ref a3])), (a3, .inl (cI, 120, .inl f_sorted_places)), (a4, .inr (0, [.ref a5, .ref a12, .ref a14, .ref a16, .ref a18, .ref a20, .int x_displacer_keyCount, .int x_displacer_bucketCount, .int x_displacer_seed])), (a20, .inr (6, [.ref a21])), (a21, .inl (cI, 120, .inl f_displacer_ranksByNumber))] x [(a0, .inr (7, [.ref a1, .ref a4, .ref a22, .ref a24, .ref a38, .int x_fingerprintMask, .int x_built])), (a1, .inr (4, [.ref a2, .int x_sorted_size])), (a2, .inr (6, [.ref a3])), (a3, .inl (cI, 120, .inl f_sorted_places)), (a4, .inr (0, [.ref a5, .ref a12, .ref a14, .ref a16, .ref a18, .ref a20, .int x_displacer_keyCount, .int x_displacer_bucketCount, .int x_displacer_seed])), (a20, .inr (6, [.ref a21])), (a21, .inl (cI, 120, .inl f_displacer_ranksByNumber))] := by
  refine kk_ofI (cc := cX7_keyWithNumber) (maxL := 2) (by decide) rfl (Nat.le_of_ble_eq_true rfl) ?_
  intro p e s m below meth c A Q ls H locs hx hb hml hown hts hE hw hl hret
  have F : kk_at p m c cX7_keyWithNumber 2 s _ wsX7_keyWithNumber RX7 G cI cJ ad A := ⟨⟨hx, hb, hml, hown, hts⟩, hE⟩
  have hl : lv_has ls 2 [(0, .ref a0), (1, .int i1)] := hl
  unfold F_X7_keyWithNumber at hF0
  refine lv_aload_n hx hb dX7_keyWithNumber_0 rfl (lv_at hl 0 rfl) ?_
  refine kk_get (T := TX7) F hw ui_X7_keyWithNumber_X7 0 rfl rfl 0 (by decide) m_X7_keyWithNumber_Cond_fieldLink_RX7_10_PerfectPew_sorted_LPerfectPew_KeyList_ rfl dX7_keyWithNumber_1 ?_
  refine lv_aload_n hx hb dX7_keyWithNumber_4 rfl (lv_at hl 0 rfl) ?_
  refine kk_get (T := TX7) F hw ui_X7_keyWithNumber_X7 0 rfl rfl 1 (by decide) m_X7_keyWithNumber_Cond_fieldLink_RX7_19_PerfectPew_displacer_LPerfectPew_Displacer_ rfl dX7_keyWithNumber_5 ?_
  refine kk_getN (T := TX0) F hw ui_X7_keyWithNumber_X0 4 rfl rfl 5 (by decide) nl_5 rfl dX7_keyWithNumber_8 ?_
  refine lv_iload_n hx hb dX7_keyWithNumber_11 rfl (lv_at hl 1 rfl) ?_
  obtain ⟨v1, ev1, hF0⟩ := kk_bind hF0
  refine kk_callI 0 0 hw (kk_runN (As := [.int i1]) (rest := [.ref a1]) F hw hl.1 (c_X6_get l G cI cJ ad a20 a21 120 f_displacer_ranksByNumber i1 N v1 ev1 H.size) gX7_keyWithNumber_X6_get_n146 rfl nl_59 m_X7_keyWithNumber_Cond_initialized_yX6_get_cls m_X7_keyWithNumber_Cond_instanceMethod_yX6_get m_X7_keyWithNumber_Cond_selects_RX6_yX6_get_yX6_get md_X6_get ⟨Nat.le_of_ble_eq_true rfl, Nat.le_of_ble_eq_true rfl⟩ ⟨Nat.le_of_ble_eq_true rfl, Nat.le_of_ble_eq_true rfl⟩ 5 6 rfl rfl rfl rfl (Nat.le_of_ble_eq_true rfl) dX7_keyWithNumber_12) ⟨rfl, rfl⟩ [5, 6] (by decide) rfl rfl (fun H locs hw => ?_)
  have hw : kk_wd G A s.heap [(a0, .inr (7, [.ref a1, .ref a4, .ref a22, .ref a24, .ref a38, .int x_fingerprintMask, .int x_built])), (a1, .inr (4, [.ref a2, .int x_sorted_size])), (a2, .inr (6, [.ref a3])), (a3, .inl (cI, 120, .inl f_sorted_places)), (a4, .inr (0, [.ref a5, .ref a12, .ref a14, .ref a16, .ref a18, .ref a20, .int x_displacer_keyCount, .int x_displacer_bucketCount, .int x_displacer_seed])), (a20, .inr (6, [.ref a21])), (a21, .inl (cI, 120, .inl f_displacer_ranksByNumber))] H locs := hw
  obtain ⟨v2, ev2, hF0⟩ := kk_bind hF0
  refine kk_callI 0 0 hw (kk_runN (As := [.int v1]) (rest := []) F hw hl.1 (c_X4_at l G cI cJ ad a1 a2 a3 x_sorted_size f_sorted_places v1 N v2 ev2 H.size) gX7_keyWithNumber_X4_at_n90 rfl nl_26 m_X7_keyWithNumber_Cond_initialized_yX4_at_cls m_X7_keyWithNumber_Cond_instanceMethod_yX4_at m_X7_keyWithNumber_Cond_selects_RX4_yX4_at_yX4_at md_X4_at ⟨Nat.le_of_ble_eq_true rfl, Nat.le_of_ble_eq_true rfl⟩ ⟨Nat.le_of_ble_eq_true rfl, Nat.le_of_ble_eq_true rfl⟩ 1 4 rfl rfl rfl rfl (Nat.le_of_ble_eq_true rfl) dX7_keyWithNumber_15) ⟨rfl, rfl⟩ [1, 2, 3] (by decide) rfl rfl (fun H locs hw => ?_)
  have hw : kk_wd G A s.heap [(a0, .inr (7, [.ref a1, .ref a4, .ref a22, .ref a24, .ref a38, .int x_fingerprintMask, .int x_built])), (a1, .inr (4, [.ref a2, .int x_sorted_size])), (a2, .inr (6, [.ref a3])), (a3, .inl (cI, 120, .inl f_sorted_places)), (a4, .inr (0, [.ref a5, .ref a12, .ref a14, .ref a16, .ref a18, .ref a20, .int x_displacer_keyCount, .int x_displacer_bucketCount, .int x_displacer_seed])), (a20, .inr (6, [.ref a21])), (a21, .inl (cI, 120, .inl f_displacer_ranksByNumber))] H locs := hw
  have hy := Option.some.inj hF0
  subst hy
  exact hret dX7_keyWithNumber_18 (by decide) (by decide) hw
theorem m_X7_fingerprintOf_Cond_fieldLink_RX7_205_PerfectPew_Hash_FINGERPRINT_LPerfectPew_Hash_ : Cond.fieldLink RX7 205 "PerfectPew$Hash" "FINGERPRINT" "LPerfectPew$Hash;" ∈ wsX7_fingerprintOf := by decide +kernel
theorem ui_X7_fingerprintOf_X7 : ∀ w ∈ u_ws RX7 TX7 7, w ∈ wsX7_fingerprintOf := by decide +kernel
theorem m_X7_fingerprintOf_Cond_fieldLink_RX7_19_PerfectPew_displacer_LPerfectPew_Displacer_ : Cond.fieldLink RX7 19 "PerfectPew" "displacer" "LPerfectPew$Displacer;" ∈ wsX7_fingerprintOf := by decide +kernel
theorem ui_X7_fingerprintOf_X0 : ∀ w ∈ u_ws RX0 TX0 9, w ∈ wsX7_fingerprintOf := by decide +kernel
theorem m_X7_fingerprintOf_Cond_fieldLink_RX7_196_PerfectPew_fingerprintMask_I_ : Cond.fieldLink RX7 196 "PerfectPew" "fingerprintMask" "I" ∈ wsX7_fingerprintOf := by decide +kernel
theorem m_X7_fingerprintOf_Cond_initialized_yX3_of_cls : Cond.initialized yX3_of.cls ∈ wsX7_fingerprintOf := by decide +kernel
theorem m_X7_fingerprintOf_Cond_instanceMethod_yX3_of : Cond.instanceMethod yX3_of ∈ wsX7_fingerprintOf := by decide +kernel
theorem m_X7_fingerprintOf_Cond_selects_RX3_yX3_of_yX3_of : Cond.selects RX3 yX3_of yX3_of ∈ wsX7_fingerprintOf := by decide +kernel
set_option maxRecDepth 100000 in
set_option maxHeartbeats 4000000 in
theorem c_X7_fingerprintOf (l : Launch) (G : va_G) (cI cJ : ClassId) (ad : Nat → Nat) (a0 a1 a4 a5 a12 a14 a16 a18 a20 a22 a24 a38 : Nat) (x_fingerprintMask : Int32) (x_built : Int32) (x_displacer_keyCount : Int32) (x_displacer_bucketCount : Int32) (x_displacer_seed : Int32) (i1 : Int32) (N : Nat) (x : Int32) (hF0 : F_X7_fingerprintOf N x_fingerprintMask x_displacer_seed i1 = some x) : kk_I l yX7_fingerprintOf wsX7_fingerprintOf 1 0 0 22 [.ref a0, .int i1] G cI cJ ad [(a0, .inr (7, [.ref a1, .ref a4, .ref a22, .ref a24, .ref a38, .int x_fingerprintMask, .int x_built])), (a4, .inr (0, [.ref a5, .ref a12, .ref a14, .ref a16, .ref a18, .ref a20, .int x_displacer_keyCount, .int x_displacer_bucketCount, .int x_displacer_seed]))] x [(a0, .inr (7, [.ref a1, .ref a4, .ref a22, .ref a24, .ref a38, .int x_fingerprintMask, .int x_built])), (a4, .inr (0, [.ref a5, .ref a12, .ref a14, .ref a16, .ref a18, .ref a20, .int x_displacer_keyCount, .int x_displacer_bucketCount, .int x_displacer_seed]))] := by
  refine kk_ofI (cc := cX7_fingerprintOf) (maxL := 2) (by decide) rfl (Nat.le_of_ble_eq_true rfl) ?_
  intro p e s m below meth c A Q ls H locs hx hb hml hown hts hE hw hl hret
  have F : kk_at p m c cX7_fingerprintOf 2 s _ wsX7_fingerprintOf RX7 G cI cJ ad A := ⟨⟨hx, hb, hml, hown, hts⟩, hE⟩
  have hl : lv_has ls 2 [(0, .ref a0), (1, .int i1)] := hl
  unfold F_X7_fingerprintOf at hF0
  refine kk_gets 3 (by decide) F hw m_X7_fingerprintOf_Cond_fieldLink_RX7_205_PerfectPew_Hash_FINGERPRINT_LPerfectPew_Hash_ dX7_fingerprintOf_0 ?_
  refine lv_iload_n hx hb dX7_fingerprintOf_3 rfl (lv_at hl 1 rfl) ?_
  refine lv_aload_n hx hb dX7_fingerprintOf_4 rfl (lv_at hl 0 rfl) ?_
  refine kk_get (T := TX7) F hw ui_X7_fingerprintOf_X7 0 rfl rfl 1 (by decide) m_X7_fingerprintOf_Cond_fieldLink_RX7_19_PerfectPew_displacer_LPerfectPew_Displacer_ rfl dX7_fingerprintOf_5 ?_
  refine kk_getN (T := TX0) F hw ui_X7_fingerprintOf_X0 1 rfl rfl 8 (by decide) nl_7 rfl dX7_fingerprintOf_8 ?_
  obtain ⟨v1, ev1, hF0⟩ := kk_bind hF0
  refine kk_callH 0 0 hw (kk_runH (As := [.int i1, .int x_displacer_seed]) (rest := []) F hw hl.1 (by decide) (c_X3_of l G cI cJ ad 3 i1 x_displacer_seed N v1 ev1 (by decide) H.size) gX7_fingerprintOf_X3_of_n211 rfl nl_60 m_X7_fingerprintOf_Cond_initialized_yX3_of_cls m_X7_fingerprintOf_Cond_instanceMethod_yX3_of m_X7_fingerprintOf_Cond_selects_RX3_yX3_of_yX3_of md_X3_of ⟨Nat.le_of_ble_eq_true rfl, Nat.le_of_ble_eq_true rfl⟩ ⟨Nat.le_of_ble_eq_true rfl, Nat.le_of_ble_eq_true rfl⟩ rfl (Nat.le_of_ble_eq_true rfl) dX7_fingerprintOf_11) ⟨rfl, rfl⟩ (fun H locs hw => ?_)
  refine lv_aload_n hx hb dX7_fingerprintOf_14 rfl (lv_at hl 0 rfl) ?_
  refine kk_get (T := TX7) F hw ui_X7_fingerprintOf_X7 0 rfl rfl 5 (by decide) m_X7_fingerprintOf_Cond_fieldLink_RX7_196_PerfectPew_fingerprintMask_I_ rfl dX7_fingerprintOf_15 ?_
  refine lv_iand hx hb dX7_fingerprintOf_18 ?_
  have hy := Option.some.inj hF0
  subst hy
  exact hret dX7_fingerprintOf_19 (by decide) (by decide) hw
theorem ui_X7_keepFingerprints_X7 : ∀ w ∈ u_ws RX7 TX7 7, w ∈ wsX7_keepFingerprints := by decide +kernel
theorem m_X7_keepFingerprints_Cond_fieldLink_RX7_196_PerfectPew_fingerprintMask_I_ : Cond.fieldLink RX7 196 "PerfectPew" "fingerprintMask" "I" ∈ wsX7_keepFingerprints := by decide +kernel
theorem m_X7_keepFingerprints_Cond_fieldLink_RX7_10_PerfectPew_sorted_LPerfectPew_KeyList_ : Cond.fieldLink RX7 10 "PerfectPew" "sorted" "LPerfectPew$KeyList;" ∈ wsX7_keepFingerprints := by decide +kernel
theorem ui_X7_keepFingerprints_X4 : ∀ w ∈ u_ws RX4 TX4 2, w ∈ wsX7_keepFingerprints := by decide +kernel
theorem m_X7_keepFingerprints_Cond_fieldLink_RX7_42_PerfectPew_fingerprints_LPerfectPew_Row_ : Cond.fieldLink RX7 42 "PerfectPew" "fingerprints" "LPerfectPew$Row;" ∈ wsX7_keepFingerprints := by decide +kernel
theorem m_X7_keepFingerprints_Cond_initialized_yX6_set_cls : Cond.initialized yX6_set.cls ∈ wsX7_keepFingerprints := by decide +kernel
theorem m_X7_keepFingerprints_Cond_instanceMethod_yX6_set : Cond.instanceMethod yX6_set ∈ wsX7_keepFingerprints := by decide +kernel
theorem m_X7_keepFingerprints_Cond_selects_RX6_yX6_set_yX6_set : Cond.selects RX6 yX6_set yX6_set ∈ wsX7_keepFingerprints := by decide +kernel
set_option maxRecDepth 100000 in
set_option maxHeartbeats 4000000 in
theorem c_X7_keepFingerprints (l : Launch) (G : va_G) (cI cJ : ClassId) (ad : Nat → Nat) (a0 a1 a2 a3 a4 a5 a12 a14 a16 a18 a20 a21 a22 a24 a38 a39 : Nat) (x_fingerprintMask : Int32) (x_built : Int32) (x_sorted_size : Int32) (f_sorted_places : Nat → Int32) (x_displacer_keyCount : Int32) (x_displacer_bucketCount : Int32) (x_displacer_seed : Int32) (f_displacer_ranksByNumber : Nat → Int32) (f_fingerprints : Nat → Int32) (i1 : Int32) (N : Nat) (x : (Int32 × (Nat → Int32))) (hF0 : F_X7_keepFingerprints N x_fingerprintMask x_sorted_size f_sorted_places x_displacer_seed f_displacer_ranksByNumber f_fingerprints i1 = some x) : kk_V l yX7_keepFingerprints wsX7_keepFingerprints 3 0 0 63 [.ref a0, .int i1] G cI cJ ad [(a0, .inr (7, [.ref a1, .ref a4, .ref a22, .ref a24, .ref a38, .int x_fingerprintMask, .int x_built])), (a1, .inr (4, [.ref a2, .int x_sorted_size])), (a2, .inr (6, [.ref a3])), (a3, .inl (cI, 120, .inl f_sorted_places)), (a4, .inr (0, [.ref a5, .ref a12, .ref a14, .ref a16, .ref a18, .ref a20, .int x_displacer_keyCount, .int x_displacer_bucketCount, .int x_displacer_seed])), (a20, .inr (6, [.ref a21])), (a21, .inl (cI, 120, .inl f_displacer_ranksByNumber)), (a38, .inr (6, [.ref a39])), (a39, .inl (cI, 120, .inl f_fingerprints))] [(a0, .inr (7, [.ref a1, .ref a4, .ref a22, .ref a24, .ref a38, .int x.1, .int x_built])), (a1, .inr (4, [.ref a2, .int x_sorted_size])), (a2, .inr (6, [.ref a3])), (a3, .inl (cI, 120, .inl f_sorted_places)), (a4, .inr (0, [.ref a5, .ref a12, .ref a14, .ref a16, .ref a18, .ref a20, .int x_displacer_keyCount, .int x_displacer_bucketCount, .int x_displacer_seed])), (a20, .inr (6, [.ref a21])), (a21, .inl (cI, 120, .inl f_displacer_ranksByNumber)), (a38, .inr (6, [.ref a39])), (a39, .inl (cI, 120, .inl x.2))] := by
  refine kk_ofV (cc := cX7_keepFingerprints) (maxL := 3) (by decide) rfl (Nat.le_of_ble_eq_true rfl) ?_
  intro p e s m below meth c A Q ls H locs hx hb hml hown hts hE hw hl hret
  have F : kk_at p m c cX7_keepFingerprints 3 s _ wsX7_keepFingerprints RX7 G cI cJ ad A := ⟨⟨hx, hb, hml, hown, hts⟩, hE⟩
  have hl : lv_has ls 3 [(0, .ref a0), (1, .int i1)] := hl
  unfold F_X7_keepFingerprints at hF0
  have hJ1 : ∀ (x_fingerprintMask_1 : Int32) (f_fingerprints_1 : Nat → Int32), J_X7_keepFingerprints_45 N x_fingerprintMask_1 f_fingerprints_1 = some x → ∀ (H : Heap) (locs : List Loc) (ls : Array Slot), kk_wd G A s.heap [(a0, .inr (7, [.ref a1, .ref a4, .ref a22, .ref a24, .ref a38, .int x_fingerprintMask_1, .int x_built])), (a1, .inr (4, [.ref a2, .int x_sorted_size])), (a2, .inr (6, [.ref a3])), (a3, .inl (cI, 120, .inl f_sorted_places)), (a4, .inr (0, [.ref a5, .ref a12, .ref a14, .ref a16, .ref a18, .ref a20, .int x_displacer_keyCount, .int x_displacer_bucketCount, .int x_displacer_seed])), (a20, .inr (6, [.ref a21])), (a21, .inl (cI, 120, .inl f_displacer_ranksByNumber)), (a38, .inr (6, [.ref a39])), (a39, .inl (cI, 120, .inl f_fingerprints_1))] H locs → lv_has ls 3 [] → W p l e (kk_rm 3 0 0 63) s m ([.ref a0, .int i1] : List Value).toArray below meth c H locs 0 0 Q (F0 m 45 ls []) := by
    intro x_fingerprintMask_1 f_fingerprints_1 hF0 H locs ls hw hl
    unfold J_X7_keepFingerprints_45 at hF0
    have hy := Option.some.inj hF0
    subst hy
    exact hret dX7_keepFingerprints_45 (by decide) (by decide) hw
  refine lv_aload_n hx hb dX7_keepFingerprints_0 rfl (lv_at hl 0 rfl) ?_
  refine lv_iconst (v := 1) hx hb dX7_keepFingerprints_1 (by decide) ?_
  refine lv_iload_n hx hb dX7_keepFingerprints_2 rfl (lv_at hl 1 rfl) ?_
  refine lv_ishl hx hb dX7_keepFingerprints_3 ?_
  refine lv_iconst (v := 1) hx hb dX7_keepFingerprints_4 (by decide) ?_
  refine lv_isub hx hb dX7_keepFingerprints_5 ?_
  refine kk_put F hw ui_X7_keepFingerprints_X7 tyX7 tyX7_ok nmX7 0 rfl rfl 5 (by decide) m_X7_keepFingerprints_Cond_fieldLink_RX7_196_PerfectPew_fingerprintMask_I_ rfl rfl rfl (Nat.le_of_ble_eq_true rfl) dX7_keepFingerprints_6 (fun H locs hw => ?_)
  have hw : kk_wd G A s.heap [(a0, .inr (7, [.ref a1, .ref a4, .ref a22, .ref a24, .ref a38, .int ((1 <<< (i1 &&& 31)) - 1), .int x_built])), (a1, .inr (4, [.ref a2, .int x_sorted_size])), (a2, .inr (6, [.ref a3])), (a3, .inl (cI, 120, .inl f_sorted_places)), (a4, .inr (0, [.ref a5, .ref a12, .ref a14, .ref a16, .ref a18, .ref a20, .int x_displacer_keyCount, .int x_displacer_bucketCount, .int x_displacer_seed])), (a20, .inr (6, [.ref a21])), (a21, .inl (cI, 120, .inl f_displacer_ranksByNumber)), (a38, .inr (6, [.ref a39])), (a39, .inl (cI, 120, .inl f_fingerprints))] H locs := hw
  refine lv_iconst (v := 0) hx hb dX7_keepFingerprints_9 (by decide) ?_
  refine lv_istore_n (lv' := [(2, .int 0), (0, .ref a0), (1, .int i1)]) hx hb dX7_keepFingerprints_10 rfl hl (by decide) rfl (fun ls hl => ?_)
  obtain ⟨z2, hz3, hF0⟩ := kk_bind hF0
  have hL3 : ∀ (n3 : Nat) (f_fingerprints_3 : Nat → Int32) (i2_3 : Int32), kk_iter (fun (σ : ((Nat → Int32) × Int32)) => L_X7_keepFingerprints_11 N ((1 <<< (i1 &&& 31)) - 1) x_sorted_size f_sorted_places x_displacer_seed f_displacer_ranksByNumber σ.1 σ.2) n3 (f_fingerprints_3, i2_3) = some z2 → ∀ (H : Heap) (locs : List Loc) (ls : Array Slot), kk_wd G A s.heap [(a0, .inr (7, [.ref a1, .ref a4, .ref a22, .ref a24, .ref a38, .int ((1 <<< (i1 &&& 31)) - 1), .int x_built])), (a1, .inr (4, [.ref a2, .int x_sorted_size])), (a2, .inr (6, [.ref a3])), (a3, .inl (cI, 120, .inl f_sorted_places)), (a4, .inr (0, [.ref a5, .ref a12, .ref a14, .ref a16, .ref a18, .ref a20, .int x_displacer_keyCount, .int x_displacer_bucketCount, .int x_displacer_seed])), (a20, .inr (6, [.ref a21])), (a21, .inl (cI, 120, .inl f_displacer_ranksByNumber)), (a38, .inr (6, [.ref a39])), (a39, .inl (cI, 120, .inl f_fingerprints_3))] H locs → lv_has ls 3 [(0, .ref a0), (2, .int i2_3)] → W p l e (kk_rm 3 0 0 63) s m ([.ref a0, .int i1] : List Value).toArray below meth c H locs 0 0 Q (F0 m 11 ls []) := by
    intro n3
    induction n3 with
    | zero => intro f_fingerprints_3 i2_3 h; exact kk_iter0 h
    | succ n3 ih3 =>
      intro f_fingerprints_3 i2_3 hq H locs ls hw hl
      obtain ⟨y3, hF1, hI1⟩ := kk_iterS hq
      have hF1 : L_X7_keepFingerprints_11 N ((1 <<< (i1 &&& 31)) - 1) x_sorted_size f_sorted_places x_displacer_seed f_displacer_ranksByNumber f_fingerprints_3 i2_3 = some y3 := hF1
      unfold L_X7_keepFingerprints_11 at hF1
      refine lv_iload_n hx hb dX7_keepFingerprints_11 rfl (lv_at hl 1 rfl) ?_
      refine lv_aload_n hx hb dX7_keepFingerprints_12 rfl (lv_at hl 0 rfl) ?_
      refine kk_get (T := TX7) F hw ui_X7_keepFingerprints_X7 0 rfl rfl 0 (by decide) m_X7_keepFingerprints_Cond_fieldLink_RX7_10_PerfectPew_sorted_LPerfectPew_KeyList_ rfl dX7_keepFingerprints_13 ?_
      refine kk_getN (T := TX4) F hw ui_X7_keepFingerprints_X4 1 rfl rfl 1 (by decide) nl_2 rfl dX7_keepFingerprints_16 ?_
      refine lv_icmp_ge (tgt := 45) hx hb dX7_keepFingerprints_19 (by decide) (fun c4 => ?_) (fun c4 => ?_)
      · have hF1 := (if_pos c4).symm.trans hF1
        have hy := Option.some.inj hF1
        subst hy
        have hz := Option.some.inj hI1
        subst hz
        exact hJ1 ((1 <<< (i1 &&& 31)) - 1) f_fingerprints_3 hF0 _ _ _ hw (lv_sub hl [] rfl)
      · have hF1 := (if_neg c4).symm.trans hF1
        refine lv_aload_n hx hb dX7_keepFingerprints_22 rfl (lv_at hl 0 rfl) ?_
        refine kk_get (T := TX7) F hw ui_X7_keepFingerprints_X7 0 rfl rfl 4 (by decide) m_X7_keepFingerprints_Cond_fieldLink_RX7_42_PerfectPew_fingerprints_LPerfectPew_Row_ rfl dX7_keepFingerprints_23 ?_
        refine lv_iload_n hx hb dX7_keepFingerprints_26 rfl (lv_at hl 1 rfl) ?_
        refine lv_aload_n hx hb dX7_keepFingerprints_27 rfl (lv_at hl 0 rfl) ?_
        refine lv_aload_n hx hb dX7_keepFingerprints_28 rfl (lv_at hl 0 rfl) ?_
        refine lv_iload_n hx hb dX7_keepFingerprints_29 rfl (lv_at hl 1 rfl) ?_
        obtain ⟨v5, ev5, hF1⟩ := kk_bind hF1
        refine kk_callI 0 0 hw (kk_runV (As := [.int i2_3]) (rest := [.ref a0, .int i2_3, .ref a38]) F hw hl.1 (c_X7_keyWithNumber l G cI cJ ad a0 a1 a2 a3 a4 a5 a12 a14 a16 a18 a20 a21 a22 a24 a38 ((1 <<< (i1 &&& 31)) - 1) x_built x_sorted_size f_sorted_places x_displacer_keyCount x_displacer_bucketCount x_displacer_seed f_displacer_ranksByNumber i2_3 N v5 ev5 H.size) gX7_keepFingerprints_X7_keyWithNumber rfl ⟨rfl, md_X7_keyWithNumber⟩ ⟨Nat.le_of_ble_eq_true rfl, Nat.le_of_ble_eq_true rfl⟩ ⟨Nat.le_of_ble_eq_true rfl, Nat.le_of_ble_eq_true rfl⟩ 0 7 rfl rfl rfl rfl (Nat.le_of_ble_eq_true rfl) dX7_keepFingerprints_30) ⟨rfl, rfl⟩ [0, 1, 2, 3, 4, 5, 6] (by decide) rfl rfl (fun H locs hw => ?_)
        have hw : kk_wd G A s.heap [(a0, .inr (7, [.ref a1, .ref a4, .ref a22, .ref a24, .ref a38, .int ((1 <<< (i1 &&& 31)) - 1), .int x_built])), (a1, .inr (4, [.ref a2, .int x_sorted_size])), (a2, .inr (6, [.ref a3])), (a3, .inl (cI, 120, .inl f_sorted_places)), (a4, .inr (0, [.ref a5, .ref a12, .ref a14, .ref a16, .ref a18, .ref a20, .int x_displacer_keyCount, .int x_displacer_bucketCount, .int x_displacer_seed])), (a20, .inr (6, [.ref a21])), (a21, .inl (cI, 120, .inl f_displacer_ranksByNumber)), (a38, .inr (6, [.ref a39])), (a39, .inl (cI, 120, .inl f_fingerprints_3))] H locs := hw
        obtain ⟨v6, ev6, hF1⟩ := kk_bind hF1
        refine kk_callI 0 0 hw (kk_runV (As := [.int v5]) (rest := [.int i2_3, .ref a38]) F hw hl.1 (c_X7_fingerprintOf l G cI cJ ad a0 a1 a4 a5 a12 a14 a16 a18 a20 a22 a24 a38 ((1 <<< (i1 &&& 31)) - 1) x_built x_displacer_keyCount x_displacer_bucketCount x_displacer_seed v5 N v6 ev6 H.size) gX7_keepFingerprints_X7_fingerprintOf rfl ⟨rfl, md_X7_fingerprintOf⟩ ⟨Nat.le_of_ble_eq_true rfl, Nat.le_of_ble_eq_true rfl⟩ ⟨Nat.le_of_ble_eq_true rfl, Nat.le_of_ble_eq_true rfl⟩ 0 7 rfl rfl rfl rfl (Nat.le_of_ble_eq_true rfl) dX7_keepFingerprints_33) ⟨rfl, rfl⟩ [0, 4] (by decide) rfl rfl (fun H locs hw => ?_)
        have hw : kk_wd G A s.heap [(a0, .inr (7, [.ref a1, .ref a4, .ref a22, .ref a24, .ref a38, .int ((1 <<< (i1 &&& 31)) - 1), .int x_built])), (a1, .inr (4, [.ref a2, .int x_sorted_size])), (a2, .inr (6, [.ref a3])), (a3, .inl (cI, 120, .inl f_sorted_places)), (a4, .inr (0, [.ref a5, .ref a12, .ref a14, .ref a16, .ref a18, .ref a20, .int x_displacer_keyCount, .int x_displacer_bucketCount, .int x_displacer_seed])), (a20, .inr (6, [.ref a21])), (a21, .inl (cI, 120, .inl f_displacer_ranksByNumber)), (a38, .inr (6, [.ref a39])), (a39, .inl (cI, 120, .inl f_fingerprints_3))] H locs := hw
        obtain ⟨v7, ev7, hF1⟩ := kk_bind hF1
        refine kk_callV 0 0 hw (kk_runN (As := [.int i2_3, .int v6]) (rest := []) F hw hl.1 (c_X6_set l G cI cJ ad a38 a39 120 f_fingerprints_3 i2_3 v6 N v7 ev7 H.size) gX7_keepFingerprints_X6_set_n202 rfl nl_61 m_X7_keepFingerprints_Cond_initialized_yX6_set_cls m_X7_keepFingerprints_Cond_instanceMethod_yX6_set m_X7_keepFingerprints_Cond_selects_RX6_yX6_set_yX6_set md_X6_set ⟨Nat.le_of_ble_eq_true rfl, Nat.le_of_ble_eq_true rfl⟩ ⟨Nat.le_of_ble_eq_true rfl, Nat.le_of_ble_eq_true rfl⟩ 7 6 rfl rfl rfl rfl (Nat.le_of_ble_eq_true rfl) dX7_keepFingerprints_36) ⟨rfl, rfl⟩ [7, 8] (by decide) rfl rfl (fun H locs hw => ?_)
        have hw : kk_wd G A s.heap [(a0, .inr (7, [.ref a1, .ref a4, .ref a22, .ref a24, .ref a38, .int ((1 <<< (i1 &&& 31)) - 1), .int x_built])), (a1, .inr (4, [.ref a2, .int x_sorted_size])), (a2, .inr (6, [.ref a3])), (a3, .inl (cI, 120, .inl f_sorted_places)), (a4, .inr (0, [.ref a5, .ref a12, .ref a14, .ref a16, .ref a18, .ref a20, .int x_displacer_keyCount, .int x_displacer_bucketCount, .int x_displacer_seed])), (a20, .inr (6, [.ref a21])), (a21, .inl (cI, 120, .inl f_displacer_ranksByNumber)), (a38, .inr (6, [.ref a39])), (a39, .inl (cI, 120, .inl v7))] H locs := hw
        refine lv_iinc (v := (i2_3 + 1)) (lv' := [(2, .int (i2_3 + 1)), (0, .ref a0)]) hx hb dX7_keepFingerprints_39 hl (k := 1) rfl rfl (by decide) rfl (fun ls hl => ?_)
        refine lv_goto (tgt := 11) hx hb dX7_keepFingerprints_42 (by decide) ?_
        have hy := Option.some.inj hF1
        subst hy
        exact ih3 v7 (i2_3 + 1) hI1 _ _ _ hw (lv_sub hl [1, 0] rfl)
  exact hL3 N f_fingerprints 0 hz3 _ _ _ hw (lv_sub hl [1, 0] rfl)
theorem ui_X7_requireBuilt_X7 : ∀ w ∈ u_ws RX7 TX7 7, w ∈ wsX7_requireBuilt := by decide +kernel
theorem m_X7_requireBuilt_Cond_fieldLink_RX7_125_PerfectPew_built_Z_ : Cond.fieldLink RX7 125 "PerfectPew" "built" "Z" ∈ wsX7_requireBuilt := by decide +kernel
set_option maxRecDepth 100000 in
set_option maxHeartbeats 4000000 in
theorem c_X7_requireBuilt (l : Launch) (G : va_G) (cI cJ : ClassId) (ad : Nat → Nat) (a0 a1 a4 a22 a24 a38 : Nat) (x_fingerprintMask : Int32) (x_built : Int32) (N : Nat) (x : Unit) (hF0 : F_X7_requireBuilt N x_built = some x) : kk_V l yX7_requireBuilt wsX7_requireBuilt 0 0 0 0 [.ref a0] G cI cJ ad [(a0, .inr (7, [.ref a1, .ref a4, .ref a22, .ref a24, .ref a38, .int x_fingerprintMask, .int x_built]))] [(a0, .inr (7, [.ref a1, .ref a4, .ref a22, .ref a24, .ref a38, .int x_fingerprintMask, .int x_built]))] := by
  refine kk_ofV (cc := cX7_requireBuilt) (maxL := 1) (by decide) rfl (Nat.le_of_ble_eq_true rfl) ?_
  intro p e s m below meth c A Q ls H locs hx hb hml hown hts hE hw hl hret
  have F : kk_at p m c cX7_requireBuilt 1 s _ wsX7_requireBuilt RX7 G cI cJ ad A := ⟨⟨hx, hb, hml, hown, hts⟩, hE⟩
  have hl : lv_has ls 1 [(0, .ref a0)] := hl
  unfold F_X7_requireBuilt at hF0
  refine lv_aload_n hx hb dX7_requireBuilt_0 rfl (lv_at hl 0 rfl) ?_
  refine kk_get (T := TX7) F hw ui_X7_requireBuilt_X7 0 rfl rfl 6 (by decide) m_X7_requireBuilt_Cond_fieldLink_RX7_125_PerfectPew_built_Z_ rfl dX7_requireBuilt_1 ?_
  refine lv_if_ne (tgt := 17) hx hb dX7_requireBuilt_4 (by decide) (fun c1 => ?_) (fun c1 => ?_)
  · have hF0 := (if_neg c1).symm.trans hF0
    have hy := Option.some.inj hF0
    subst hy
    exact hret dX7_requireBuilt_17 (by decide) (by decide) hw
  · have hF0 := (if_pos c1).symm.trans hF0
    cases hF0
theorem ui_X7_reopen_X7 : ∀ w ∈ u_ws RX7 TX7 7, w ∈ wsX7_reopen := by decide +kernel
theorem m_X7_reopen_Cond_fieldLink_RX7_125_PerfectPew_built_Z_ : Cond.fieldLink RX7 125 "PerfectPew" "built" "Z" ∈ wsX7_reopen := by decide +kernel
set_option maxRecDepth 100000 in
set_option maxHeartbeats 4000000 in
theorem c_X7_reopen (l : Launch) (G : va_G) (cI cJ : ClassId) (ad : Nat → Nat) (a0 a1 a4 a22 a24 a38 : Nat) (x_fingerprintMask : Int32) (x_built : Int32) (N : Nat) (x : Int32) (hF0 : F_X7_reopen N x_built = some x) : kk_V l yX7_reopen wsX7_reopen 1 0 0 20 [.ref a0] G cI cJ ad [(a0, .inr (7, [.ref a1, .ref a4, .ref a22, .ref a24, .ref a38, .int x_fingerprintMask, .int x_built]))] [(a0, .inr (7, [.ref a1, .ref a4, .ref a22, .ref a24, .ref a38, .int x_fingerprintMask, .int x]))] := by
  refine kk_ofV (cc := cX7_reopen) (maxL := 1) (by decide) rfl (Nat.le_of_ble_eq_true rfl) ?_
  intro p e s m below meth c A Q ls H locs hx hb hml hown hts hE hw hl hret
  have F : kk_at p m c cX7_reopen 1 s _ wsX7_reopen RX7 G cI cJ ad A := ⟨⟨hx, hb, hml, hown, hts⟩, hE⟩
  have hl : lv_has ls 1 [(0, .ref a0)] := hl
  unfold F_X7_reopen at hF0
  refine lv_aload_n hx hb dX7_reopen_0 rfl (lv_at hl 0 rfl) ?_
  obtain ⟨v1, ev1, hF0⟩ := kk_bind hF0
  refine kk_callV 0 0 hw (kk_runV (As := []) (rest := []) F hw hl.1 (c_X7_requireBuilt l G cI cJ ad a0 a1 a4 a22 a24 a38 x_fingerprintMask x_built N v1 ev1 H.size) gX7_reopen_X7_requireBuilt rfl ⟨rfl, md_X7_requireBuilt⟩ ⟨Nat.le_of_ble_eq_true rfl, Nat.le_of_ble_eq_true rfl⟩ ⟨Nat.le_of_ble_eq_true rfl, Nat.le_of_ble_eq_true rfl⟩ 0 7 rfl rfl rfl rfl (Nat.le_of_ble_eq_true rfl) dX7_reopen_1) ⟨rfl, rfl⟩ [0] (by decide) rfl rfl (fun H locs hw => ?_)
  have hw : kk_wd G A s.heap [(a0, .inr (7, [.ref a1, .ref a4, .ref a22, .ref a24, .ref a38, .int x_fingerprintMask, .int x_built]))] H locs := hw
  refine lv_aload_n hx hb dX7_reopen_4 rfl (lv_at hl 0 rfl) ?_
  refine lv_iconst (v := 0) hx hb dX7_reopen_5 (by decide) ?_
  refine kk_put F hw ui_X7_reopen_X7 tyX7 tyX7_ok nmX7 0 rfl rfl 6 (by decide) m_X7_reopen_Cond_fieldLink_RX7_125_PerfectPew_built_Z_ rfl (by decide) (by decide) (Nat.le_of_ble_eq_true rfl) dX7_reopen_6 (fun H locs hw => ?_)
  have hw : kk_wd G A s.heap [(a0, .inr (7, [.ref a1, .ref a4, .ref a22, .ref a24, .ref a38, .int x_fingerprintMask, .int 0]))] H locs := hw
  have hy := Option.some.inj hF0
  subst hy
  exact hret dX7_reopen_9 (by decide) (by decide) hw
theorem ui_X7_number_X7 : ∀ w ∈ u_ws RX7 TX7 7, w ∈ wsX7_number := by decide +kernel
theorem m_X7_number_Cond_fieldLink_RX7_19_PerfectPew_displacer_LPerfectPew_Displacer_ : Cond.fieldLink RX7 19 "PerfectPew" "displacer" "LPerfectPew$Displacer;" ∈ wsX7_number := by decide +kernel
theorem m_X7_number_Cond_initialized_yX0_numberOf_cls : Cond.initialized yX0_numberOf.cls ∈ wsX7_number := by decide +kernel
theorem m_X7_number_Cond_instanceMethod_yX0_numberOf : Cond.instanceMethod yX0_numberOf ∈ wsX7_number := by decide +kernel
theorem m_X7_number_Cond_selects_RX0_yX0_numberOf_yX0_numberOf : Cond.selects RX0 yX0_numberOf yX0_numberOf ∈ wsX7_number := by decide +kernel
set_option maxRecDepth 100000 in
set_option maxHeartbeats 4000000 in
theorem c_X7_number (l : Launch) (G : va_G) (cI cJ : ClassId) (ad : Nat → Nat) (a0 a1 a4 a5 a12 a14 a16 a18 a19 a20 a22 a24 a38 : Nat) (x_fingerprintMask : Int32) (x_built : Int32) (x_displacer_keyCount : Int32) (x_displacer_bucketCount : Int32) (x_displacer_seed : Int32) (f_displacer_displacements : Nat → Int32) (i1 : Int32) (N : Nat) (x : Int32) (hF0 : F_X7_number N x_built x_displacer_keyCount x_displacer_bucketCount x_displacer_seed f_displacer_displacements i1 = some x) : kk_I l yX7_number wsX7_number 3 0 0 65 [.ref a0, .int i1] G cI cJ ad [(a0, .inr (7, [.ref a1, .ref a4, .ref a22, .ref a24, .ref a38, .int x_fingerprintMask, .int x_built])), (a4, .inr (0, [.ref a5, .ref a12, .ref a14, .ref a16, .ref a18, .ref a20, .int x_displacer_keyCount, .int x_displacer_bucketCount, .int x_displacer_seed])), (a18, .inr (6, [.ref a19])), (a19, .inl (cI, 120, .inl f_displacer_displacements))] x [(a0, .inr (7, [.ref a1, .ref a4, .ref a22, .ref a24, .ref a38, .int x_fingerprintMask, .int x_built])), (a4, .inr (0, [.ref a5, .ref a12, .ref a14, .ref a16, .ref a18, .ref a20, .int x_displacer_keyCount, .int x_displacer_bucketCount, .int x_displacer_seed])), (a18, .inr (6, [.ref a19])), (a19, .inl (cI, 120, .inl f_displacer_displacements))] := by
  refine kk_ofI (cc := cX7_number) (maxL := 2) (by decide) rfl (Nat.le_of_ble_eq_true rfl) ?_
  intro p e s m below meth c A Q ls H locs hx hb hml hown hts hE hw hl hret
  have F : kk_at p m c cX7_number 2 s _ wsX7_number RX7 G cI cJ ad A := ⟨⟨hx, hb, hml, hown, hts⟩, hE⟩
  have hl : lv_has ls 2 [(0, .ref a0), (1, .int i1)] := hl
  unfold F_X7_number at hF0
  refine lv_iload_n hx hb dX7_number_0 rfl (lv_at hl 1 rfl) ?_
  obtain ⟨v1, ev1, hF0⟩ := kk_bind hF0
  refine kk_callV 0 0 hw (kk_runS (As := [.int i1]) (rest := []) F hw hl.1 (c_X7_requireKey l G cI cJ ad i1 N v1 ev1 H.size) gX7_number_X7_requireKey rfl md_X7_requireKey ⟨Nat.le_of_ble_eq_true rfl, Nat.le_of_ble_eq_true rfl⟩ ⟨Nat.le_of_ble_eq_true rfl, Nat.le_of_ble_eq_true rfl⟩ rfl (Nat.le_of_ble_eq_true rfl) dX7_number_1) ⟨rfl, rfl⟩ [] (by decide) rfl rfl (fun H locs hw => ?_)
  refine lv_aload_n hx hb dX7_number_4 rfl (lv_at hl 0 rfl) ?_
  obtain ⟨v2, ev2, hF0⟩ := kk_bind hF0
  refine kk_callV 0 0 hw (kk_runV (As := []) (rest := []) F hw hl.1 (c_X7_requireBuilt l G cI cJ ad a0 a1 a4 a22 a24 a38 x_fingerprintMask x_built N v2 ev2 H.size) gX7_number_X7_requireBuilt rfl ⟨rfl, md_X7_requireBuilt⟩ ⟨Nat.le_of_ble_eq_true rfl, Nat.le_of_ble_eq_true rfl⟩ ⟨Nat.le_of_ble_eq_true rfl, Nat.le_of_ble_eq_true rfl⟩ 0 7 rfl rfl rfl rfl (Nat.le_of_ble_eq_true rfl) dX7_number_5) ⟨rfl, rfl⟩ [0] (by decide) rfl rfl (fun H locs hw => ?_)
  have hw : kk_wd G A s.heap [(a0, .inr (7, [.ref a1, .ref a4, .ref a22, .ref a24, .ref a38, .int x_fingerprintMask, .int x_built])), (a4, .inr (0, [.ref a5, .ref a12, .ref a14, .ref a16, .ref a18, .ref a20, .int x_displacer_keyCount, .int x_displacer_bucketCount, .int x_displacer_seed])), (a18, .inr (6, [.ref a19])), (a19, .inl (cI, 120, .inl f_displacer_displacements))] H locs := hw
  refine lv_aload_n hx hb dX7_number_8 rfl (lv_at hl 0 rfl) ?_
  refine kk_get (T := TX7) F hw ui_X7_number_X7 0 rfl rfl 1 (by decide) m_X7_number_Cond_fieldLink_RX7_19_PerfectPew_displacer_LPerfectPew_Displacer_ rfl dX7_number_9 ?_
  refine lv_iload_n hx hb dX7_number_12 rfl (lv_at hl 1 rfl) ?_
  obtain ⟨v3, ev3, hF0⟩ := kk_bind hF0
  refine kk_callI 0 0 hw (kk_runN (As := [.int i1]) (rest := []) F hw hl.1 (c_X0_numberOf l G cI cJ ad a4 a5 a12 a14 a16 a18 a19 a20 x_displacer_keyCount x_displacer_bucketCount x_displacer_seed f_displacer_displacements i1 N v3 ev3 H.size) gX7_number_X0_numberOf_n135 rfl nl_65 m_X7_number_Cond_initialized_yX0_numberOf_cls m_X7_number_Cond_instanceMethod_yX0_numberOf m_X7_number_Cond_selects_RX0_yX0_numberOf_yX0_numberOf md_X0_numberOf ⟨Nat.le_of_ble_eq_true rfl, Nat.le_of_ble_eq_true rfl⟩ ⟨Nat.le_of_ble_eq_true rfl, Nat.le_of_ble_eq_true rfl⟩ 1 0 rfl rfl rfl rfl (Nat.le_of_ble_eq_true rfl) dX7_number_13) ⟨rfl, rfl⟩ [1, 2, 3] (by decide) rfl rfl (fun H locs hw => ?_)
  have hw : kk_wd G A s.heap [(a0, .inr (7, [.ref a1, .ref a4, .ref a22, .ref a24, .ref a38, .int x_fingerprintMask, .int x_built])), (a4, .inr (0, [.ref a5, .ref a12, .ref a14, .ref a16, .ref a18, .ref a20, .int x_displacer_keyCount, .int x_displacer_bucketCount, .int x_displacer_seed])), (a18, .inr (6, [.ref a19])), (a19, .inl (cI, 120, .inl f_displacer_displacements))] H locs := hw
  have hy := Option.some.inj hF0
  subst hy
  exact hret dX7_number_16 (by decide) (by decide) hw
theorem ui_X7_lookUp_X7 : ∀ w ∈ u_ws RX7 TX7 7, w ∈ wsX7_lookUp := by decide +kernel
theorem m_X7_lookUp_Cond_fieldLink_RX7_19_PerfectPew_displacer_LPerfectPew_Displacer_ : Cond.fieldLink RX7 19 "PerfectPew" "displacer" "LPerfectPew$Displacer;" ∈ wsX7_lookUp := by decide +kernel
theorem m_X7_lookUp_Cond_fieldLink_RX7_42_PerfectPew_fingerprints_LPerfectPew_Row_ : Cond.fieldLink RX7 42 "PerfectPew" "fingerprints" "LPerfectPew$Row;" ∈ wsX7_lookUp := by decide +kernel
theorem m_X7_lookUp_Cond_initialized_yX6_get_cls : Cond.initialized yX6_get.cls ∈ wsX7_lookUp := by decide +kernel
theorem m_X7_lookUp_Cond_instanceMethod_yX6_get : Cond.instanceMethod yX6_get ∈ wsX7_lookUp := by decide +kernel
theorem m_X7_lookUp_Cond_selects_RX6_yX6_get_yX6_get : Cond.selects RX6 yX6_get yX6_get ∈ wsX7_lookUp := by decide +kernel
theorem m_X7_lookUp_Cond_initialized_yX0_numberOf_cls : Cond.initialized yX0_numberOf.cls ∈ wsX7_lookUp := by decide +kernel
theorem m_X7_lookUp_Cond_instanceMethod_yX0_numberOf : Cond.instanceMethod yX0_numberOf ∈ wsX7_lookUp := by decide +kernel
theorem m_X7_lookUp_Cond_selects_RX0_yX0_numberOf_yX0_numberOf : Cond.selects RX0 yX0_numberOf yX0_numberOf ∈ wsX7_lookUp := by decide +kernel
set_option maxRecDepth 100000 in
set_option maxHeartbeats 4000000 in
theorem c_X7_lookUp (l : Launch) (G : va_G) (cI cJ : ClassId) (ad : Nat → Nat) (a0 a1 a4 a5 a12 a14 a16 a18 a19 a20 a22 a24 a38 a39 : Nat) (x_fingerprintMask : Int32) (x_built : Int32) (x_displacer_keyCount : Int32) (x_displacer_bucketCount : Int32) (x_displacer_seed : Int32) (f_displacer_displacements : Nat → Int32) (f_fingerprints : Nat → Int32) (i1 : Int32) (N : Nat) (x : Int32) (hF0 : F_X7_lookUp N x_fingerprintMask x_displacer_keyCount x_displacer_bucketCount x_displacer_seed f_displacer_displacements f_fingerprints i1 = some x) : kk_I l yX7_lookUp wsX7_lookUp 3 0 0 65 [.ref a0, .int i1] G cI cJ ad [(a0, .inr (7, [.ref a1, .ref a4, .ref a22, .ref a24, .ref a38, .int x_fingerprintMask, .int x_built])), (a4, .inr (0, [.ref a5, .ref a12, .ref a14, .ref a16, .ref a18, .ref a20, .int x_displacer_keyCount, .int x_displacer_bucketCount, .int x_displacer_seed])), (a18, .inr (6, [.ref a19])), (a19, .inl (cI, 120, .inl f_displacer_displacements)), (a38, .inr (6, [.ref a39])), (a39, .inl (cI, 120, .inl f_fingerprints))] x [(a0, .inr (7, [.ref a1, .ref a4, .ref a22, .ref a24, .ref a38, .int x_fingerprintMask, .int x_built])), (a4, .inr (0, [.ref a5, .ref a12, .ref a14, .ref a16, .ref a18, .ref a20, .int x_displacer_keyCount, .int x_displacer_bucketCount, .int x_displacer_seed])), (a18, .inr (6, [.ref a19])), (a19, .inl (cI, 120, .inl f_displacer_displacements)), (a38, .inr (6, [.ref a39])), (a39, .inl (cI, 120, .inl f_fingerprints))] := by
  refine kk_ofI (cc := cX7_lookUp) (maxL := 3) (by decide) rfl (Nat.le_of_ble_eq_true rfl) ?_
  intro p e s m below meth c A Q ls H locs hx hb hml hown hts hE hw hl hret
  have F : kk_at p m c cX7_lookUp 3 s _ wsX7_lookUp RX7 G cI cJ ad A := ⟨⟨hx, hb, hml, hown, hts⟩, hE⟩
  have hl : lv_has ls 3 [(0, .ref a0), (1, .int i1)] := hl
  unfold F_X7_lookUp at hF0
  have hJ1 : ∀ (s0_1 : Int32), J_X7_lookUp_30 N s0_1 = some x → ∀ (H : Heap) (locs : List Loc) (ls : Array Slot), kk_wd G A s.heap [(a0, .inr (7, [.ref a1, .ref a4, .ref a22, .ref a24, .ref a38, .int x_fingerprintMask, .int x_built])), (a4, .inr (0, [.ref a5, .ref a12, .ref a14, .ref a16, .ref a18, .ref a20, .int x_displacer_keyCount, .int x_displacer_bucketCount, .int x_displacer_seed])), (a18, .inr (6, [.ref a19])), (a19, .inl (cI, 120, .inl f_displacer_displacements)), (a38, .inr (6, [.ref a39])), (a39, .inl (cI, 120, .inl f_fingerprints))] H locs → lv_has ls 3 [] → W p l e (kk_rm 3 0 0 65) s m ([.ref a0, .int i1] : List Value).toArray below meth c H locs 0 0 Q (F0 m 30 ls [.int s0_1]) := by
    intro s0_1 hF0 H locs ls hw hl
    unfold J_X7_lookUp_30 at hF0
    have hy := Option.some.inj hF0
    subst hy
    exact hret dX7_lookUp_30 (by decide) (by decide) hw
  refine lv_aload_n hx hb dX7_lookUp_0 rfl (lv_at hl 0 rfl) ?_
  refine kk_get (T := TX7) F hw ui_X7_lookUp_X7 0 rfl rfl 1 (by decide) m_X7_lookUp_Cond_fieldLink_RX7_19_PerfectPew_displacer_LPerfectPew_Displacer_ rfl dX7_lookUp_1 ?_
  refine lv_iload_n hx hb dX7_lookUp_4 rfl (lv_at hl 1 rfl) ?_
  obtain ⟨v2, ev2, hF0⟩ := kk_bind hF0
  refine kk_callI 0 0 hw (kk_runN (As := [.int i1]) (rest := []) F hw hl.1 (c_X0_numberOf l G cI cJ ad a4 a5 a12 a14 a16 a18 a19 a20 x_displacer_keyCount x_displacer_bucketCount x_displacer_seed f_displacer_displacements i1 N v2 ev2 H.size) gX7_lookUp_X0_numberOf_n135 rfl nl_65 m_X7_lookUp_Cond_initialized_yX0_numberOf_cls m_X7_lookUp_Cond_instanceMethod_yX0_numberOf m_X7_lookUp_Cond_selects_RX0_yX0_numberOf_yX0_numberOf md_X0_numberOf ⟨Nat.le_of_ble_eq_true rfl, Nat.le_of_ble_eq_true rfl⟩ ⟨Nat.le_of_ble_eq_true rfl, Nat.le_of_ble_eq_true rfl⟩ 1 0 rfl rfl rfl rfl (Nat.le_of_ble_eq_true rfl) dX7_lookUp_5) ⟨rfl, rfl⟩ [1, 2, 3] (by decide) rfl rfl (fun H locs hw => ?_)
  have hw : kk_wd G A s.heap [(a0, .inr (7, [.ref a1, .ref a4, .ref a22, .ref a24, .ref a38, .int x_fingerprintMask, .int x_built])), (a4, .inr (0, [.ref a5, .ref a12, .ref a14, .ref a16, .ref a18, .ref a20, .int x_displacer_keyCount, .int x_displacer_bucketCount, .int x_displacer_seed])), (a18, .inr (6, [.ref a19])), (a19, .inl (cI, 120, .inl f_displacer_displacements)), (a38, .inr (6, [.ref a39])), (a39, .inl (cI, 120, .inl f_fingerprints))] H locs := hw
  refine lv_istore_n (lv' := [(2, .int v2), (0, .ref a0), (1, .int i1)]) hx hb dX7_lookUp_8 rfl hl (by decide) rfl (fun ls hl => ?_)
  refine lv_aload_n hx hb dX7_lookUp_9 rfl (lv_at hl 1 rfl) ?_
  refine kk_get (T := TX7) F hw ui_X7_lookUp_X7 0 rfl rfl 4 (by decide) m_X7_lookUp_Cond_fieldLink_RX7_42_PerfectPew_fingerprints_LPerfectPew_Row_ rfl dX7_lookUp_10 ?_
  refine lv_iload_n hx hb dX7_lookUp_13 rfl (lv_at hl 0 rfl) ?_
  obtain ⟨v3, ev3, hF0⟩ := kk_bind hF0
  refine kk_callI 0 0 hw (kk_runN (As := [.int v2]) (rest := []) F hw hl.1 (c_X6_get l G cI cJ ad a38 a39 120 f_fingerprints v2 N v3 ev3 H.size) gX7_lookUp_X6_get_n146 rfl nl_59 m_X7_lookUp_Cond_initialized_yX6_get_cls m_X7_lookUp_Cond_instanceMethod_yX6_get m_X7_lookUp_Cond_selects_RX6_yX6_get_yX6_get md_X6_get ⟨Nat.le_of_ble_eq_true rfl, Nat.le_of_ble_eq_true rfl⟩ ⟨Nat.le_of_ble_eq_true rfl, Nat.le_of_ble_eq_true rfl⟩ 4 6 rfl rfl rfl rfl (Nat.le_of_ble_eq_true rfl) dX7_lookUp_14) ⟨rfl, rfl⟩ [4, 5] (by decide) rfl rfl (fun H locs hw => ?_)
  have hw : kk_wd G A s.heap [(a0, .inr (7, [.ref a1, .ref a4, .ref a22, .ref a24, .ref a38, .int x_fingerprintMask, .int x_built])), (a4, .inr (0, [.ref a5, .ref a12, .ref a14, .ref a16, .ref a18, .ref a20, .int x_displacer_keyCount, .int x_displacer_bucketCount, .int x_displacer_seed])), (a18, .inr (6, [.ref a19])), (a19, .inl (cI, 120, .inl f_displacer_displacements)), (a38, .inr (6, [.ref a39])), (a39, .inl (cI, 120, .inl f_fingerprints))] H locs := hw
  refine lv_aload_n hx hb dX7_lookUp_17 rfl (lv_at hl 1 rfl) ?_
  refine lv_iload_n hx hb dX7_lookUp_18 rfl (lv_at hl 2 rfl) ?_
  obtain ⟨v4, ev4, hF0⟩ := kk_bind hF0
  refine kk_callI 0 0 hw (kk_runV (As := [.int i1]) (rest := [.int v3]) F hw hl.1 (c_X7_fingerprintOf l G cI cJ ad a0 a1 a4 a5 a12 a14 a16 a18 a20 a22 a24 a38 x_fingerprintMask x_built x_displacer_keyCount x_displacer_bucketCount x_displacer_seed i1 N v4 ev4 H.size) gX7_lookUp_X7_fingerprintOf rfl ⟨rfl, md_X7_fingerprintOf⟩ ⟨Nat.le_of_ble_eq_true rfl, Nat.le_of_ble_eq_true rfl⟩ ⟨Nat.le_of_ble_eq_true rfl, Nat.le_of_ble_eq_true rfl⟩ 0 7 rfl rfl rfl rfl (Nat.le_of_ble_eq_true rfl) dX7_lookUp_19) ⟨rfl, rfl⟩ [0, 1] (by decide) rfl rfl (fun H locs hw => ?_)
  have hw : kk_wd G A s.heap [(a0, .inr (7, [.ref a1, .ref a4, .ref a22, .ref a24, .ref a38, .int x_fingerprintMask, .int x_built])), (a4, .inr (0, [.ref a5, .ref a12, .ref a14, .ref a16, .ref a18, .ref a20, .int x_displacer_keyCount, .int x_displacer_bucketCount, .int x_displacer_seed])), (a18, .inr (6, [.ref a19])), (a19, .inl (cI, 120, .inl f_displacer_displacements)), (a38, .inr (6, [.ref a39])), (a39, .inl (cI, 120, .inl f_fingerprints))] H locs := hw
  refine lv_icmp_ne (tgt := 29) hx hb dX7_lookUp_22 (by decide) (fun c5 => ?_) (fun c5 => ?_)
  · have hF0 := (if_neg c5).symm.trans hF0
    refine lv_iconst (v := (-1)) hx hb dX7_lookUp_29 (by decide) ?_
    exact hJ1 (-1) hF0 _ _ _ hw (lv_sub hl [] rfl)
  · have hF0 := (if_pos c5).symm.trans hF0
    refine lv_iload_n hx hb dX7_lookUp_25 rfl (lv_at hl 0 rfl) ?_
    refine lv_goto (tgt := 30) hx hb dX7_lookUp_26 (by decide) ?_
    exact hJ1 v2 hF0 _ _ _ hw (lv_sub hl [] rfl)
set_option maxRecDepth 100000 in
set_option maxHeartbeats 4000000 in
theorem c_X7_find (l : Launch) (G : va_G) (cI cJ : ClassId) (ad : Nat → Nat) (a0 a1 a4 a5 a12 a14 a16 a18 a19 a20 a22 a24 a38 a39 : Nat) (x_fingerprintMask : Int32) (x_built : Int32) (x_displacer_keyCount : Int32) (x_displacer_bucketCount : Int32) (x_displacer_seed : Int32) (f_displacer_displacements : Nat → Int32) (f_fingerprints : Nat → Int32) (i1 : Int32) (N : Nat) (x : Int32) (hF0 : F_X7_find N x_fingerprintMask x_built x_displacer_keyCount x_displacer_bucketCount x_displacer_seed f_displacer_displacements f_fingerprints i1 = some x) : kk_I l yX7_find wsX7_find 4 0 0 87 [.ref a0, .int i1] G cI cJ ad [(a0, .inr (7, [.ref a1, .ref a4, .ref a22, .ref a24, .ref a38, .int x_fingerprintMask, .int x_built])), (a4, .inr (0, [.ref a5, .ref a12, .ref a14, .ref a16, .ref a18, .ref a20, .int x_displacer_keyCount, .int x_displacer_bucketCount, .int x_displacer_seed])), (a18, .inr (6, [.ref a19])), (a19, .inl (cI, 120, .inl f_displacer_displacements)), (a38, .inr (6, [.ref a39])), (a39, .inl (cI, 120, .inl f_fingerprints))] x [(a0, .inr (7, [.ref a1, .ref a4, .ref a22, .ref a24, .ref a38, .int x_fingerprintMask, .int x_built])), (a4, .inr (0, [.ref a5, .ref a12, .ref a14, .ref a16, .ref a18, .ref a20, .int x_displacer_keyCount, .int x_displacer_bucketCount, .int x_displacer_seed])), (a18, .inr (6, [.ref a19])), (a19, .inl (cI, 120, .inl f_displacer_displacements)), (a38, .inr (6, [.ref a39])), (a39, .inl (cI, 120, .inl f_fingerprints))] := by
  refine kk_ofI (cc := cX7_find) (maxL := 2) (by decide) rfl (Nat.le_of_ble_eq_true rfl) ?_
  intro p e s m below meth c A Q ls H locs hx hb hml hown hts hE hw hl hret
  have F : kk_at p m c cX7_find 2 s _ wsX7_find RX7 G cI cJ ad A := ⟨⟨hx, hb, hml, hown, hts⟩, hE⟩
  have hl : lv_has ls 2 [(0, .ref a0), (1, .int i1)] := hl
  unfold F_X7_find at hF0
  refine lv_iload_n hx hb dX7_find_0 rfl (lv_at hl 1 rfl) ?_
  obtain ⟨v1, ev1, hF0⟩ := kk_bind hF0
  refine kk_callV 0 0 hw (kk_runS (As := [.int i1]) (rest := []) F hw hl.1 (c_X7_requireKey l G cI cJ ad i1 N v1 ev1 H.size) gX7_find_X7_requireKey rfl md_X7_requireKey ⟨Nat.le_of_ble_eq_true rfl, Nat.le_of_ble_eq_true rfl⟩ ⟨Nat.le_of_ble_eq_true rfl, Nat.le_of_ble_eq_true rfl⟩ rfl (Nat.le_of_ble_eq_true rfl) dX7_find_1) ⟨rfl, rfl⟩ [] (by decide) rfl rfl (fun H locs hw => ?_)
  refine lv_aload_n hx hb dX7_find_4 rfl (lv_at hl 0 rfl) ?_
  obtain ⟨v2, ev2, hF0⟩ := kk_bind hF0
  refine kk_callV 0 0 hw (kk_runV (As := []) (rest := []) F hw hl.1 (c_X7_requireBuilt l G cI cJ ad a0 a1 a4 a22 a24 a38 x_fingerprintMask x_built N v2 ev2 H.size) gX7_find_X7_requireBuilt rfl ⟨rfl, md_X7_requireBuilt⟩ ⟨Nat.le_of_ble_eq_true rfl, Nat.le_of_ble_eq_true rfl⟩ ⟨Nat.le_of_ble_eq_true rfl, Nat.le_of_ble_eq_true rfl⟩ 0 7 rfl rfl rfl rfl (Nat.le_of_ble_eq_true rfl) dX7_find_5) ⟨rfl, rfl⟩ [0] (by decide) rfl rfl (fun H locs hw => ?_)
  have hw : kk_wd G A s.heap [(a0, .inr (7, [.ref a1, .ref a4, .ref a22, .ref a24, .ref a38, .int x_fingerprintMask, .int x_built])), (a4, .inr (0, [.ref a5, .ref a12, .ref a14, .ref a16, .ref a18, .ref a20, .int x_displacer_keyCount, .int x_displacer_bucketCount, .int x_displacer_seed])), (a18, .inr (6, [.ref a19])), (a19, .inl (cI, 120, .inl f_displacer_displacements)), (a38, .inr (6, [.ref a39])), (a39, .inl (cI, 120, .inl f_fingerprints))] H locs := hw
  refine lv_aload_n hx hb dX7_find_8 rfl (lv_at hl 0 rfl) ?_
  refine lv_iload_n hx hb dX7_find_9 rfl (lv_at hl 1 rfl) ?_
  obtain ⟨v3, ev3, hF0⟩ := kk_bind hF0
  refine kk_callI 0 0 hw (kk_runV (As := [.int i1]) (rest := []) F hw hl.1 (c_X7_lookUp l G cI cJ ad a0 a1 a4 a5 a12 a14 a16 a18 a19 a20 a22 a24 a38 a39 x_fingerprintMask x_built x_displacer_keyCount x_displacer_bucketCount x_displacer_seed f_displacer_displacements f_fingerprints i1 N v3 ev3 H.size) gX7_find_X7_lookUp rfl ⟨rfl, md_X7_lookUp⟩ ⟨Nat.le_of_ble_eq_true rfl, Nat.le_of_ble_eq_true rfl⟩ ⟨Nat.le_of_ble_eq_true rfl, Nat.le_of_ble_eq_true rfl⟩ 0 7 rfl rfl rfl rfl (Nat.le_of_ble_eq_true rfl) dX7_find_10) ⟨rfl, rfl⟩ [0, 1, 2, 3, 4, 5] (by decide) rfl rfl (fun H locs hw => ?_)
  have hw : kk_wd G A s.heap [(a0, .inr (7, [.ref a1, .ref a4, .ref a22, .ref a24, .ref a38, .int x_fingerprintMask, .int x_built])), (a4, .inr (0, [.ref a5, .ref a12, .ref a14, .ref a16, .ref a18, .ref a20, .int x_displacer_keyCount, .int x_displacer_bucketCount, .int x_displacer_seed])), (a18, .inr (6, [.ref a19])), (a19, .inl (cI, 120, .inl f_displacer_displacements)), (a38, .inr (6, [.ref a39])), (a39, .inl (cI, 120, .inl f_fingerprints))] H locs := hw
  have hy := Option.some.inj hF0
  subst hy
  exact hret dX7_find_13 (by decide) (by decide) hw
theorem ui_X7_keyOf_X7 : ∀ w ∈ u_ws RX7 TX7 7, w ∈ wsX7_keyOf := by decide +kernel
theorem m_X7_keyOf_Cond_fieldLink_RX7_10_PerfectPew_sorted_LPerfectPew_KeyList_ : Cond.fieldLink RX7 10 "PerfectPew" "sorted" "LPerfectPew$KeyList;" ∈ wsX7_keyOf := by decide +kernel
theorem ui_X7_keyOf_X4 : ∀ w ∈ u_ws RX4 TX4 2, w ∈ wsX7_keyOf := by decide +kernel
set_option maxRecDepth 100000 in
set_option maxHeartbeats 4000000 in
theorem c_X7_keyOf (l : Launch) (G : va_G) (cI cJ : ClassId) (ad : Nat → Nat) (a0 a1 a2 a3 a4 a5 a12 a14 a16 a18 a20 a21 a22 a24 a38 : Nat) (x_fingerprintMask : Int32) (x_built : Int32) (x_sorted_size : Int32) (f_sorted_places : Nat → Int32) (x_displacer_keyCount : Int32) (x_displacer_bucketCount : Int32) (x_displacer_seed : Int32) (f_displacer_ranksByNumber : Nat → Int32) (i1 : Int32) (N : Nat) (x : Int32) (hF0 : F_X7_keyOf N x_built x_sorted_size f_sorted_places f_displacer_ranksByNumber i1 = some x) : kk_I l yX7_keyOf wsX7_keyOf 3 0 0 63 [.ref a0, .int i1] G cI cJ ad [(a0, .inr (7, [.ref a1, .ref a4, .ref a22, .ref a24, .ref a38, .int x_fingerprintMask, .int x_built])), (a1, .inr (4, [.ref a2, .int x_sorted_size])), (a2, .inr (6, [.ref a3])), (a3, .inl (cI, 120, .inl f_sorted_places)), (a4, .inr (0, [.ref a5, .ref a12, .ref a14, .ref a16, .ref a18, .ref a20, .int x_displacer_keyCount, .int x_displacer_bucketCount, .int x_displacer_seed])), (a20, .inr (6, [.ref a21])), (a21, .inl (cI, 120, .inl f_displacer_ranksByNumber))] x [(a0, .inr (7, [.ref a1, .ref a4, .ref a22, .ref a24, .ref a38, .int x_fingerprintMask, .int x_built])), (a1, .inr (4, [.ref a2, .int x_sorted_size])), (a2, .inr (6, [.ref a3])), (a3, .inl (cI, 120, .inl f_sorted_places)), (a4, .inr (0, [.ref a5, .ref a12, .ref a14, .ref a16, .ref a18, .ref a20, .int x_displacer_keyCount, .int x_displacer_bucketCount, .int x_displacer_seed])), (a20, .inr (6, [.ref a21])), (a21, .inl (cI, 120, .inl f_displacer_ranksByNumber))] := by
  refine kk_ofI (cc := cX7_keyOf) (maxL := 2) (by decide) rfl (Nat.le_of_ble_eq_true rfl) ?_
  intro p e s m below meth c A Q ls H locs hx hb hml hown hts hE hw hl hret
  have F : kk_at p m c cX7_keyOf 2 s _ wsX7_keyOf RX7 G cI cJ ad A := ⟨⟨hx, hb, hml, hown, hts⟩, hE⟩
  have hl : lv_has ls 2 [(0, .ref a0), (1, .int i1)] := hl
  unfold F_X7_keyOf at hF0
  refine lv_aload_n hx hb dX7_keyOf_0 rfl (lv_at hl 0 rfl) ?_
  obtain ⟨v1, ev1, hF0⟩ := kk_bind hF0
  refine kk_callV 0 0 hw (kk_runV (As := []) (rest := []) F hw hl.1 (c_X7_requireBuilt l G cI cJ ad a0 a1 a4 a22 a24 a38 x_fingerprintMask x_built N v1 ev1 H.size) gX7_keyOf_X7_requireBuilt rfl ⟨rfl, md_X7_requireBuilt⟩ ⟨Nat.le_of_ble_eq_true rfl, Nat.le_of_ble_eq_true rfl⟩ ⟨Nat.le_of_ble_eq_true rfl, Nat.le_of_ble_eq_true rfl⟩ 0 7 rfl rfl rfl rfl (Nat.le_of_ble_eq_true rfl) dX7_keyOf_1) ⟨rfl, rfl⟩ [0] (by decide) rfl rfl (fun H locs hw => ?_)
  have hw : kk_wd G A s.heap [(a0, .inr (7, [.ref a1, .ref a4, .ref a22, .ref a24, .ref a38, .int x_fingerprintMask, .int x_built])), (a1, .inr (4, [.ref a2, .int x_sorted_size])), (a2, .inr (6, [.ref a3])), (a3, .inl (cI, 120, .inl f_sorted_places)), (a4, .inr (0, [.ref a5, .ref a12, .ref a14, .ref a16, .ref a18, .ref a20, .int x_displacer_keyCount, .int x_displacer_bucketCount, .int x_displacer_seed])), (a20, .inr (6, [.ref a21])), (a21, .inl (cI, 120, .inl f_displacer_ranksByNumber))] H locs := hw
  refine lv_iload_n hx hb dX7_keyOf_4 rfl (lv_at hl 1 rfl) ?_
  refine lv_aload_n hx hb dX7_keyOf_5 rfl (lv_at hl 0 rfl) ?_
  refine kk_get (T := TX7) F hw ui_X7_keyOf_X7 0 rfl rfl 0 (by decide) m_X7_keyOf_Cond_fieldLink_RX7_10_PerfectPew_sorted_LPerfectPew_KeyList_ rfl dX7_keyOf_6 ?_
  refine kk_getN (T := TX4) F hw ui_X7_keyOf_X4 1 rfl rfl 1 (by decide) nl_2 rfl dX7_keyOf_9 ?_
  obtain ⟨v2, ev2, hF0⟩ := kk_bind hF0
  refine kk_callV 0 0 hw (kk_runS (As := [.int i1, .int x_sorted_size]) (rest := []) F hw hl.1 (c_X7_requireBelow l G cI cJ ad i1 x_sorted_size N v2 ev2 H.size) gX7_keyOf_X7_requireBelow rfl md_X7_requireBelow ⟨Nat.le_of_ble_eq_true rfl, Nat.le_of_ble_eq_true rfl⟩ ⟨Nat.le_of_ble_eq_true rfl, Nat.le_of_ble_eq_true rfl⟩ rfl (Nat.le_of_ble_eq_true rfl) dX7_keyOf_12) ⟨rfl, rfl⟩ [] (by decide) rfl rfl (fun H locs hw => ?_)
  refine lv_aload_n hx hb dX7_keyOf_15 rfl (lv_at hl 0 rfl) ?_
  refine lv_iload_n hx hb dX7_keyOf_16 rfl (lv_at hl 1 rfl) ?_
  obtain ⟨v3, ev3, hF0⟩ := kk_bind hF0
  refine kk_callI 0 0 hw (kk_runV (As := [.int i1]) (rest := []) F hw hl.1 (c_X7_keyWithNumber l G cI cJ ad a0 a1 a2 a3 a4 a5 a12 a14 a16 a18 a20 a21 a22 a24 a38 x_fingerprintMask x_built x_sorted_size f_sorted_places x_displacer_keyCount x_displacer_bucketCount x_displacer_seed f_displacer_ranksByNumber i1 N v3 ev3 H.size) gX7_keyOf_X7_keyWithNumber rfl ⟨rfl, md_X7_keyWithNumber⟩ ⟨Nat.le_of_ble_eq_true rfl, Nat.le_of_ble_eq_true rfl⟩ ⟨Nat.le_of_ble_eq_true rfl, Nat.le_of_ble_eq_true rfl⟩ 0 7 rfl rfl rfl rfl (Nat.le_of_ble_eq_true rfl) dX7_keyOf_17) ⟨rfl, rfl⟩ [0, 1, 2, 3, 4, 5, 6] (by decide) rfl rfl (fun H locs hw => ?_)
  have hw : kk_wd G A s.heap [(a0, .inr (7, [.ref a1, .ref a4, .ref a22, .ref a24, .ref a38, .int x_fingerprintMask, .int x_built])), (a1, .inr (4, [.ref a2, .int x_sorted_size])), (a2, .inr (6, [.ref a3])), (a3, .inl (cI, 120, .inl f_sorted_places)), (a4, .inr (0, [.ref a5, .ref a12, .ref a14, .ref a16, .ref a18, .ref a20, .int x_displacer_keyCount, .int x_displacer_bucketCount, .int x_displacer_seed])), (a20, .inr (6, [.ref a21])), (a21, .inl (cI, 120, .inl f_displacer_ranksByNumber))] H locs := hw
  have hy := Option.some.inj hF0
  subst hy
  exact hret dX7_keyOf_20 (by decide) (by decide) hw
theorem ui_X7_seed_X7 : ∀ w ∈ u_ws RX7 TX7 7, w ∈ wsX7_seed := by decide +kernel
theorem m_X7_seed_Cond_fieldLink_RX7_19_PerfectPew_displacer_LPerfectPew_Displacer_ : Cond.fieldLink RX7 19 "PerfectPew" "displacer" "LPerfectPew$Displacer;" ∈ wsX7_seed := by decide +kernel
theorem ui_X7_seed_X0 : ∀ w ∈ u_ws RX0 TX0 9, w ∈ wsX7_seed := by decide +kernel
set_option maxRecDepth 100000 in
set_option maxHeartbeats 4000000 in
theorem c_X7_seed (l : Launch) (G : va_G) (cI cJ : ClassId) (ad : Nat → Nat) (a0 a1 a4 a5 a12 a14 a16 a18 a20 a22 a24 a38 : Nat) (x_fingerprintMask : Int32) (x_built : Int32) (x_displacer_keyCount : Int32) (x_displacer_bucketCount : Int32) (x_displacer_seed : Int32) (N : Nat) (x : Int32) (hF0 : F_X7_seed N x_built x_displacer_seed = some x) : kk_I l yX7_seed wsX7_seed 1 0 0 20 [.ref a0] G cI cJ ad [(a0, .inr (7, [.ref a1, .ref a4, .ref a22, .ref a24, .ref a38, .int x_fingerprintMask, .int x_built])), (a4, .inr (0, [.ref a5, .ref a12, .ref a14, .ref a16, .ref a18, .ref a20, .int x_displacer_keyCount, .int x_displacer_bucketCount, .int x_displacer_seed]))] x [(a0, .inr (7, [.ref a1, .ref a4, .ref a22, .ref a24, .ref a38, .int x_fingerprintMask, .int x_built])), (a4, .inr (0, [.ref a5, .ref a12, .ref a14, .ref a16, .ref a18, .ref a20, .int x_displacer_keyCount, .int x_displacer_bucketCount, .int x_displacer_seed]))] := by
  refine kk_ofI (cc := cX7_seed) (maxL := 1) (by decide) rfl (Nat.le_of_ble_eq_true rfl) ?_
  intro p e s m below meth c A Q ls H locs hx hb hml hown hts hE hw hl hret
  have F : kk_at p m c cX7_seed 1 s _ wsX7_seed RX7 G cI cJ ad A := ⟨⟨hx, hb, hml, hown, hts⟩, hE⟩
  have hl : lv_has ls 1 [(0, .ref a0)] := hl
  unfold F_X7_seed at hF0
  refine lv_aload_n hx hb dX7_seed_0 rfl (lv_at hl 0 rfl) ?_
  obtain ⟨v1, ev1, hF0⟩ := kk_bind hF0
  refine kk_callV 0 0 hw (kk_runV (As := []) (rest := []) F hw hl.1 (c_X7_requireBuilt l G cI cJ ad a0 a1 a4 a22 a24 a38 x_fingerprintMask x_built N v1 ev1 H.size) gX7_seed_X7_requireBuilt rfl ⟨rfl, md_X7_requireBuilt⟩ ⟨Nat.le_of_ble_eq_true rfl, Nat.le_of_ble_eq_true rfl⟩ ⟨Nat.le_of_ble_eq_true rfl, Nat.le_of_ble_eq_true rfl⟩ 0 7 rfl rfl rfl rfl (Nat.le_of_ble_eq_true rfl) dX7_seed_1) ⟨rfl, rfl⟩ [0] (by decide) rfl rfl (fun H locs hw => ?_)
  have hw : kk_wd G A s.heap [(a0, .inr (7, [.ref a1, .ref a4, .ref a22, .ref a24, .ref a38, .int x_fingerprintMask, .int x_built])), (a4, .inr (0, [.ref a5, .ref a12, .ref a14, .ref a16, .ref a18, .ref a20, .int x_displacer_keyCount, .int x_displacer_bucketCount, .int x_displacer_seed]))] H locs := hw
  refine lv_aload_n hx hb dX7_seed_4 rfl (lv_at hl 0 rfl) ?_
  refine kk_get (T := TX7) F hw ui_X7_seed_X7 0 rfl rfl 1 (by decide) m_X7_seed_Cond_fieldLink_RX7_19_PerfectPew_displacer_LPerfectPew_Displacer_ rfl dX7_seed_5 ?_
  refine kk_getN (T := TX0) F hw ui_X7_seed_X0 1 rfl rfl 8 (by decide) nl_7 rfl dX7_seed_8 ?_
  have hy := Option.some.inj hF0
  subst hy
  exact hret dX7_seed_11 (by decide) (by decide) hw
theorem ui_X7_buckets_X7 : ∀ w ∈ u_ws RX7 TX7 7, w ∈ wsX7_buckets := by decide +kernel
theorem m_X7_buckets_Cond_fieldLink_RX7_19_PerfectPew_displacer_LPerfectPew_Displacer_ : Cond.fieldLink RX7 19 "PerfectPew" "displacer" "LPerfectPew$Displacer;" ∈ wsX7_buckets := by decide +kernel
theorem ui_X7_buckets_X0 : ∀ w ∈ u_ws RX0 TX0 9, w ∈ wsX7_buckets := by decide +kernel
set_option maxRecDepth 100000 in
set_option maxHeartbeats 4000000 in
theorem c_X7_buckets (l : Launch) (G : va_G) (cI cJ : ClassId) (ad : Nat → Nat) (a0 a1 a4 a5 a12 a14 a16 a18 a20 a22 a24 a38 : Nat) (x_fingerprintMask : Int32) (x_built : Int32) (x_displacer_keyCount : Int32) (x_displacer_bucketCount : Int32) (x_displacer_seed : Int32) (N : Nat) (x : Int32) (hF0 : F_X7_buckets N x_built x_displacer_bucketCount = some x) : kk_I l yX7_buckets wsX7_buckets 1 0 0 20 [.ref a0] G cI cJ ad [(a0, .inr (7, [.ref a1, .ref a4, .ref a22, .ref a24, .ref a38, .int x_fingerprintMask, .int x_built])), (a4, .inr (0, [.ref a5, .ref a12, .ref a14, .ref a16, .ref a18, .ref a20, .int x_displacer_keyCount, .int x_displacer_bucketCount, .int x_displacer_seed]))] x [(a0, .inr (7, [.ref a1, .ref a4, .ref a22, .ref a24, .ref a38, .int x_fingerprintMask, .int x_built])), (a4, .inr (0, [.ref a5, .ref a12, .ref a14, .ref a16, .ref a18, .ref a20, .int x_displacer_keyCount, .int x_displacer_bucketCount, .int x_displacer_seed]))] := by
  refine kk_ofI (cc := cX7_buckets) (maxL := 1) (by decide) rfl (Nat.le_of_ble_eq_true rfl) ?_
  intro p e s m below meth c A Q ls H locs hx hb hml hown hts hE hw hl hret
  have F : kk_at p m c cX7_buckets 1 s _ wsX7_buckets RX7 G cI cJ ad A := ⟨⟨hx, hb, hml, hown, hts⟩, hE⟩
  have hl : lv_has ls 1 [(0, .ref a0)] := hl
  unfold F_X7_buckets at hF0
  refine lv_aload_n hx hb dX7_buckets_0 rfl (lv_at hl 0 rfl) ?_
  obtain ⟨v1, ev1, hF0⟩ := kk_bind hF0
  refine kk_callV 0 0 hw (kk_runV (As := []) (rest := []) F hw hl.1 (c_X7_requireBuilt l G cI cJ ad a0 a1 a4 a22 a24 a38 x_fingerprintMask x_built N v1 ev1 H.size) gX7_buckets_X7_requireBuilt rfl ⟨rfl, md_X7_requireBuilt⟩ ⟨Nat.le_of_ble_eq_true rfl, Nat.le_of_ble_eq_true rfl⟩ ⟨Nat.le_of_ble_eq_true rfl, Nat.le_of_ble_eq_true rfl⟩ 0 7 rfl rfl rfl rfl (Nat.le_of_ble_eq_true rfl) dX7_buckets_1) ⟨rfl, rfl⟩ [0] (by decide) rfl rfl (fun H locs hw => ?_)
  have hw : kk_wd G A s.heap [(a0, .inr (7, [.ref a1, .ref a4, .ref a22, .ref a24, .ref a38, .int x_fingerprintMask, .int x_built])), (a4, .inr (0, [.ref a5, .ref a12, .ref a14, .ref a16, .ref a18, .ref a20, .int x_displacer_keyCount, .int x_displacer_bucketCount, .int x_displacer_seed]))] H locs := hw
  refine lv_aload_n hx hb dX7_buckets_4 rfl (lv_at hl 0 rfl) ?_
  refine kk_get (T := TX7) F hw ui_X7_buckets_X7 0 rfl rfl 1 (by decide) m_X7_buckets_Cond_fieldLink_RX7_19_PerfectPew_displacer_LPerfectPew_Displacer_ rfl dX7_buckets_5 ?_
  refine kk_getN (T := TX0) F hw ui_X7_buckets_X0 1 rfl rfl 7 (by decide) nl_6 rfl dX7_buckets_8 ?_
  have hy := Option.some.inj hF0
  subst hy
  exact hret dX7_buckets_11 (by decide) (by decide) hw
theorem ui_X7_inBucket_X7 : ∀ w ∈ u_ws RX7 TX7 7, w ∈ wsX7_inBucket := by decide +kernel
theorem m_X7_inBucket_Cond_fieldLink_RX7_19_PerfectPew_displacer_LPerfectPew_Displacer_ : Cond.fieldLink RX7 19 "PerfectPew" "displacer" "LPerfectPew$Displacer;" ∈ wsX7_inBucket := by decide +kernel
theorem ui_X7_inBucket_X0 : ∀ w ∈ u_ws RX0 TX0 9, w ∈ wsX7_inBucket := by decide +kernel
theorem m_X7_inBucket_Cond_initialized_yX2_sizeOf_cls : Cond.initialized yX2_sizeOf.cls ∈ wsX7_inBucket := by decide +kernel
theorem m_X7_inBucket_Cond_instanceMethod_yX2_sizeOf : Cond.instanceMethod yX2_sizeOf ∈ wsX7_inBucket := by decide +kernel
theorem m_X7_inBucket_Cond_selects_RX2_yX2_sizeOf_yX2_sizeOf : Cond.selects RX2 yX2_sizeOf yX2_sizeOf ∈ wsX7_inBucket := by decide +kernel
set_option maxRecDepth 100000 in
set_option maxHeartbeats 4000000 in
theorem c_X7_inBucket (l : Launch) (G : va_G) (cI cJ : ClassId) (ad : Nat → Nat) (a0 a1 a4 a5 a6 a8 a9 a10 a12 a14 a16 a18 a20 a22 a24 a38 : Nat) (x_fingerprintMask : Int32) (x_built : Int32) (x_displacer_keyCount : Int32) (x_displacer_bucketCount : Int32) (x_displacer_seed : Int32) (x_displacer_ranksByBucket_thingCount : Int32) (x_displacer_ranksByBucket_groupCount : Int32) (f_displacer_ranksByBucket_begins : Nat → Int32) (i1 : Int32) (N : Nat) (x : Int32) (hF0 : F_X7_inBucket N x_built x_displacer_bucketCount f_displacer_ranksByBucket_begins i1 = some x) : kk_I l yX7_inBucket wsX7_inBucket 3 0 0 63 [.ref a0, .int i1] G cI cJ ad [(a0, .inr (7, [.ref a1, .ref a4, .ref a22, .ref a24, .ref a38, .int x_fingerprintMask, .int x_built])), (a4, .inr (0, [.ref a5, .ref a12, .ref a14, .ref a16, .ref a18, .ref a20, .int x_displacer_keyCount, .int x_displacer_bucketCount, .int x_displacer_seed])), (a5, .inr (2, [.ref a6, .ref a8, .ref a10, .int x_displacer_ranksByBucket_thingCount, .int x_displacer_ranksByBucket_groupCount])), (a8, .inr (6, [.ref a9])), (a9, .inl (cI, 121, .inl f_displacer_ranksByBucket_begins))] x [(a0, .inr (7, [.ref a1, .ref a4, .ref a22, .ref a24, .ref a38, .int x_fingerprintMask, .int x_built])), (a4, .inr (0, [.ref a5, .ref a12, .ref a14, .ref a16, .ref a18, .ref a20, .int x_displacer_keyCount, .int x_displacer_bucketCount, .int x_displacer_seed])), (a5, .inr (2, [.ref a6, .ref a8, .ref a10, .int x_displacer_ranksByBucket_thingCount, .int x_displacer_ranksByBucket_groupCount])), (a8, .inr (6, [.ref a9])), (a9, .inl (cI, 121, .inl f_displacer_ranksByBucket_begins))] := by
  refine kk_ofI (cc := cX7_inBucket) (maxL := 2) (by decide) rfl (Nat.le_of_ble_eq_true rfl) ?_
  intro p e s m below meth c A Q ls H locs hx hb hml hown hts hE hw hl hret
  have F : kk_at p m c cX7_inBucket 2 s _ wsX7_inBucket RX7 G cI cJ ad A := ⟨⟨hx, hb, hml, hown, hts⟩, hE⟩
  have hl : lv_has ls 2 [(0, .ref a0), (1, .int i1)] := hl
  unfold F_X7_inBucket at hF0
  refine lv_aload_n hx hb dX7_inBucket_0 rfl (lv_at hl 0 rfl) ?_
  obtain ⟨v1, ev1, hF0⟩ := kk_bind hF0
  refine kk_callV 0 0 hw (kk_runV (As := []) (rest := []) F hw hl.1 (c_X7_requireBuilt l G cI cJ ad a0 a1 a4 a22 a24 a38 x_fingerprintMask x_built N v1 ev1 H.size) gX7_inBucket_X7_requireBuilt rfl ⟨rfl, md_X7_requireBuilt⟩ ⟨Nat.le_of_ble_eq_true rfl, Nat.le_of_ble_eq_true rfl⟩ ⟨Nat.le_of_ble_eq_true rfl, Nat.le_of_ble_eq_true rfl⟩ 0 7 rfl rfl rfl rfl (Nat.le_of_ble_eq_true rfl) dX7_inBucket_1) ⟨rfl, rfl⟩ [0] (by decide) rfl rfl (fun H locs hw => ?_)
  have hw : kk_wd G A s.heap [(a0, .inr (7, [.ref a1, .ref a4, .ref a22, .ref a24, .ref a38, .int x_fingerprintMask, .int x_built])), (a4, .inr (0, [.ref a5, .ref a12, .ref a14, .ref a16, .ref a18, .ref a20, .int x_displacer_keyCount, .int x_displacer_bucketCount, .int x_displacer_seed])), (a5, .inr (2, [.ref a6, .ref a8, .ref a10, .int x_displacer_ranksByBucket_thingCount, .int x_displacer_ranksByBucket_groupCount])), (a8, .inr (6, [.ref a9])), (a9, .inl (cI, 121, .inl f_displacer_ranksByBucket_begins))] H locs := hw
  refine lv_iload_n hx hb dX7_inBucket_4 rfl (lv_at hl 1 rfl) ?_
  refine lv_aload_n hx hb dX7_inBucket_5 rfl (lv_at hl 0 rfl) ?_
  refine kk_get (T := TX7) F hw ui_X7_inBucket_X7 0 rfl rfl 1 (by decide) m_X7_inBucket_Cond_fieldLink_RX7_19_PerfectPew_displacer_LPerfectPew_Displacer_ rfl dX7_inBucket_6 ?_
  refine kk_getN (T := TX0) F hw ui_X7_inBucket_X0 1 rfl rfl 7 (by decide) nl_6 rfl dX7_inBucket_9 ?_
  obtain ⟨v2, ev2, hF0⟩ := kk_bind hF0
  refine kk_callV 0 0 hw (kk_runS (As := [.int i1, .int x_displacer_bucketCount]) (rest := []) F hw hl.1 (c_X7_requireBelow l G cI cJ ad i1 x_displacer_bucketCount N v2 ev2 H.size) gX7_inBucket_X7_requireBelow rfl md_X7_requireBelow ⟨Nat.le_of_ble_eq_true rfl, Nat.le_of_ble_eq_true rfl⟩ ⟨Nat.le_of_ble_eq_true rfl, Nat.le_of_ble_eq_true rfl⟩ rfl (Nat.le_of_ble_eq_true rfl) dX7_inBucket_12) ⟨rfl, rfl⟩ [] (by decide) rfl rfl (fun H locs hw => ?_)
  refine lv_aload_n hx hb dX7_inBucket_15 rfl (lv_at hl 0 rfl) ?_
  refine kk_get (T := TX7) F hw ui_X7_inBucket_X7 0 rfl rfl 1 (by decide) m_X7_inBucket_Cond_fieldLink_RX7_19_PerfectPew_displacer_LPerfectPew_Displacer_ rfl dX7_inBucket_16 ?_
  refine kk_getN (T := TX0) F hw ui_X7_inBucket_X0 1 rfl rfl 0 (by decide) nl_3 rfl dX7_inBucket_19 ?_
  refine lv_iload_n hx hb dX7_inBucket_22 rfl (lv_at hl 1 rfl) ?_
  obtain ⟨v3, ev3, hF0⟩ := kk_bind hF0
  refine kk_callI 0 0 hw (kk_runN (As := [.int i1]) (rest := []) F hw hl.1 (c_X2_sizeOf l G cI cJ ad a5 a6 a8 a9 a10 x_displacer_ranksByBucket_thingCount x_displacer_ranksByBucket_groupCount 121 f_displacer_ranksByBucket_begins i1 N v3 ev3 H.size) gX7_inBucket_X2_sizeOf_n153 rfl nl_66 m_X7_inBucket_Cond_initialized_yX2_sizeOf_cls m_X7_inBucket_Cond_instanceMethod_yX2_sizeOf m_X7_inBucket_Cond_selects_RX2_yX2_sizeOf_yX2_sizeOf md_X2_sizeOf ⟨Nat.le_of_ble_eq_true rfl, Nat.le_of_ble_eq_true rfl⟩ ⟨Nat.le_of_ble_eq_true rfl, Nat.le_of_ble_eq_true rfl⟩ 2 2 rfl rfl rfl rfl (Nat.le_of_ble_eq_true rfl) dX7_inBucket_23) ⟨rfl, rfl⟩ [2, 3, 4] (by decide) rfl rfl (fun H locs hw => ?_)
  have hw : kk_wd G A s.heap [(a0, .inr (7, [.ref a1, .ref a4, .ref a22, .ref a24, .ref a38, .int x_fingerprintMask, .int x_built])), (a4, .inr (0, [.ref a5, .ref a12, .ref a14, .ref a16, .ref a18, .ref a20, .int x_displacer_keyCount, .int x_displacer_bucketCount, .int x_displacer_seed])), (a5, .inr (2, [.ref a6, .ref a8, .ref a10, .int x_displacer_ranksByBucket_thingCount, .int x_displacer_ranksByBucket_groupCount])), (a8, .inr (6, [.ref a9])), (a9, .inl (cI, 121, .inl f_displacer_ranksByBucket_begins))] H locs := hw
  have hy := Option.some.inj hF0
  subst hy
  exact hret dX7_inBucket_26 (by decide) (by decide) hw
theorem ui_X7_displacement_X7 : ∀ w ∈ u_ws RX7 TX7 7, w ∈ wsX7_displacement := by decide +kernel
theorem m_X7_displacement_Cond_fieldLink_RX7_19_PerfectPew_displacer_LPerfectPew_Displacer_ : Cond.fieldLink RX7 19 "PerfectPew" "displacer" "LPerfectPew$Displacer;" ∈ wsX7_displacement := by decide +kernel
theorem ui_X7_displacement_X0 : ∀ w ∈ u_ws RX0 TX0 9, w ∈ wsX7_displacement := by decide +kernel
theorem m_X7_displacement_Cond_initialized_yX6_get_cls : Cond.initialized yX6_get.cls ∈ wsX7_displacement := by decide +kernel
theorem m_X7_displacement_Cond_instanceMethod_yX6_get : Cond.instanceMethod yX6_get ∈ wsX7_displacement := by decide +kernel
theorem m_X7_displacement_Cond_selects_RX6_yX6_get_yX6_get : Cond.selects RX6 yX6_get yX6_get ∈ wsX7_displacement := by decide +kernel
set_option maxRecDepth 100000 in
set_option maxHeartbeats 4000000 in
theorem c_X7_displacement (l : Launch) (G : va_G) (cI cJ : ClassId) (ad : Nat → Nat) (a0 a1 a4 a5 a12 a14 a16 a18 a19 a20 a22 a24 a38 : Nat) (x_fingerprintMask : Int32) (x_built : Int32) (x_displacer_keyCount : Int32) (x_displacer_bucketCount : Int32) (x_displacer_seed : Int32) (f_displacer_displacements : Nat → Int32) (i1 : Int32) (N : Nat) (x : Int32) (hF0 : F_X7_displacement N x_built x_displacer_bucketCount f_displacer_displacements i1 = some x) : kk_I l yX7_displacement wsX7_displacement 1 0 0 21 [.ref a0, .int i1] G cI cJ ad [(a0, .inr (7, [.ref a1, .ref a4, .ref a22, .ref a24, .ref a38, .int x_fingerprintMask, .int x_built])), (a4, .inr (0, [.ref a5, .ref a12, .ref a14, .ref a16, .ref a18, .ref a20, .int x_displacer_keyCount, .int x_displacer_bucketCount, .int x_displacer_seed])), (a18, .inr (6, [.ref a19])), (a19, .inl (cI, 120, .inl f_displacer_displacements))] x [(a0, .inr (7, [.ref a1, .ref a4, .ref a22, .ref a24, .ref a38, .int x_fingerprintMask, .int x_built])), (a4, .inr (0, [.ref a5, .ref a12, .ref a14, .ref a16, .ref a18, .ref a20, .int x_displacer_keyCount, .int x_displacer_bucketCount, .int x_displacer_seed])), (a18, .inr (6, [.ref a19])), (a19, .inl (cI, 120, .inl f_displacer_displacements))] := by
  refine kk_ofI (cc := cX7_displacement) (maxL := 2) (by decide) rfl (Nat.le_of_ble_eq_true rfl) ?_
  intro p e s m below meth c A Q ls H locs hx hb hml hown hts hE hw hl hret
  have F : kk_at p m c cX7_displacement 2 s _ wsX7_displacement RX7 G cI cJ ad A := ⟨⟨hx, hb, hml, hown, hts⟩, hE⟩
  have hl : lv_has ls 2 [(0, .ref a0), (1, .int i1)] := hl
  unfold F_X7_displacement at hF0
  refine lv_aload_n hx hb dX7_displacement_0 rfl (lv_at hl 0 rfl) ?_
  obtain ⟨v1, ev1, hF0⟩ := kk_bind hF0
  refine kk_callV 0 0 hw (kk_runV (As := []) (rest := []) F hw hl.1 (c_X7_requireBuilt l G cI cJ ad a0 a1 a4 a22 a24 a38 x_fingerprintMask x_built N v1 ev1 H.size) gX7_displacement_X7_requireBuilt rfl ⟨rfl, md_X7_requireBuilt⟩ ⟨Nat.le_of_ble_eq_true rfl, Nat.le_of_ble_eq_true rfl⟩ ⟨Nat.le_of_ble_eq_true rfl, Nat.le_of_ble_eq_true rfl⟩ 0 7 rfl rfl rfl rfl (Nat.le_of_ble_eq_true rfl) dX7_displacement_1) ⟨rfl, rfl⟩ [0] (by decide) rfl rfl (fun H locs hw => ?_)
  have hw : kk_wd G A s.heap [(a0, .inr (7, [.ref a1, .ref a4, .ref a22, .ref a24, .ref a38, .int x_fingerprintMask, .int x_built])), (a4, .inr (0, [.ref a5, .ref a12, .ref a14, .ref a16, .ref a18, .ref a20, .int x_displacer_keyCount, .int x_displacer_bucketCount, .int x_displacer_seed])), (a18, .inr (6, [.ref a19])), (a19, .inl (cI, 120, .inl f_displacer_displacements))] H locs := hw
  refine lv_iload_n hx hb dX7_displacement_4 rfl (lv_at hl 1 rfl) ?_
  refine lv_aload_n hx hb dX7_displacement_5 rfl (lv_at hl 0 rfl) ?_
  refine kk_get (T := TX7) F hw ui_X7_displacement_X7 0 rfl rfl 1 (by decide) m_X7_displacement_Cond_fieldLink_RX7_19_PerfectPew_displacer_LPerfectPew_Displacer_ rfl dX7_displacement_6 ?_
  refine kk_getN (T := TX0) F hw ui_X7_displacement_X0 1 rfl rfl 7 (by decide) nl_6 rfl dX7_displacement_9 ?_
  obtain ⟨v2, ev2, hF0⟩ := kk_bind hF0
  refine kk_callV 0 0 hw (kk_runS (As := [.int i1, .int x_displacer_bucketCount]) (rest := []) F hw hl.1 (c_X7_requireBelow l G cI cJ ad i1 x_displacer_bucketCount N v2 ev2 H.size) gX7_displacement_X7_requireBelow rfl md_X7_requireBelow ⟨Nat.le_of_ble_eq_true rfl, Nat.le_of_ble_eq_true rfl⟩ ⟨Nat.le_of_ble_eq_true rfl, Nat.le_of_ble_eq_true rfl⟩ rfl (Nat.le_of_ble_eq_true rfl) dX7_displacement_12) ⟨rfl, rfl⟩ [] (by decide) rfl rfl (fun H locs hw => ?_)
  refine lv_aload_n hx hb dX7_displacement_15 rfl (lv_at hl 0 rfl) ?_
  refine kk_get (T := TX7) F hw ui_X7_displacement_X7 0 rfl rfl 1 (by decide) m_X7_displacement_Cond_fieldLink_RX7_19_PerfectPew_displacer_LPerfectPew_Displacer_ rfl dX7_displacement_16 ?_
  refine kk_getN (T := TX0) F hw ui_X7_displacement_X0 1 rfl rfl 4 (by decide) nl_4 rfl dX7_displacement_19 ?_
  refine lv_iload_n hx hb dX7_displacement_22 rfl (lv_at hl 1 rfl) ?_
  obtain ⟨v3, ev3, hF0⟩ := kk_bind hF0
  refine kk_callI 0 0 hw (kk_runN (As := [.int i1]) (rest := []) F hw hl.1 (c_X6_get l G cI cJ ad a18 a19 120 f_displacer_displacements i1 N v3 ev3 H.size) gX7_displacement_X6_get_n146 rfl nl_59 m_X7_displacement_Cond_initialized_yX6_get_cls m_X7_displacement_Cond_instanceMethod_yX6_get m_X7_displacement_Cond_selects_RX6_yX6_get_yX6_get md_X6_get ⟨Nat.le_of_ble_eq_true rfl, Nat.le_of_ble_eq_true rfl⟩ ⟨Nat.le_of_ble_eq_true rfl, Nat.le_of_ble_eq_true rfl⟩ 2 6 rfl rfl rfl rfl (Nat.le_of_ble_eq_true rfl) dX7_displacement_23) ⟨rfl, rfl⟩ [2, 3] (by decide) rfl rfl (fun H locs hw => ?_)
  have hw : kk_wd G A s.heap [(a0, .inr (7, [.ref a1, .ref a4, .ref a22, .ref a24, .ref a38, .int x_fingerprintMask, .int x_built])), (a4, .inr (0, [.ref a5, .ref a12, .ref a14, .ref a16, .ref a18, .ref a20, .int x_displacer_keyCount, .int x_displacer_bucketCount, .int x_displacer_seed])), (a18, .inr (6, [.ref a19])), (a19, .inl (cI, 120, .inl f_displacer_displacements))] H locs := hw
  have hy := Option.some.inj hF0
  subst hy
  exact hret dX7_displacement_26 (by decide) (by decide) hw
theorem ui_X7_width_X7 : ∀ w ∈ u_ws RX7 TX7 7, w ∈ wsX7_width := by decide +kernel
theorem m_X7_width_Cond_fieldLink_RX7_26_PerfectPew_packer_LPerfectPew_Packer_ : Cond.fieldLink RX7 26 "PerfectPew" "packer" "LPerfectPew$Packer;" ∈ wsX7_width := by decide +kernel
theorem ui_X7_width_X5 : ∀ w ∈ u_ws RX5 TX5 3, w ∈ wsX7_width := by decide +kernel
set_option maxRecDepth 100000 in
set_option maxHeartbeats 4000000 in
theorem c_X7_width (l : Launch) (G : va_G) (cI cJ : ClassId) (ad : Nat → Nat) (a0 a1 a4 a22 a23 a24 a38 : Nat) (x_fingerprintMask : Int32) (x_built : Int32) (x_packer_bitsEach : Int32) (x_packer_wordCount : Int32) (N : Nat) (x : Int32) (hF0 : F_X7_width N x_built x_packer_bitsEach = some x) : kk_I l yX7_width wsX7_width 1 0 0 20 [.ref a0] G cI cJ ad [(a0, .inr (7, [.ref a1, .ref a4, .ref a22, .ref a24, .ref a38, .int x_fingerprintMask, .int x_built])), (a22, .inr (5, [.ref a23, .int x_packer_bitsEach, .int x_packer_wordCount]))] x [(a0, .inr (7, [.ref a1, .ref a4, .ref a22, .ref a24, .ref a38, .int x_fingerprintMask, .int x_built])), (a22, .inr (5, [.ref a23, .int x_packer_bitsEach, .int x_packer_wordCount]))] := by
  refine kk_ofI (cc := cX7_width) (maxL := 1) (by decide) rfl (Nat.le_of_ble_eq_true rfl) ?_
  intro p e s m below meth c A Q ls H locs hx hb hml hown hts hE hw hl hret
  have F : kk_at p m c cX7_width 1 s _ wsX7_width RX7 G cI cJ ad A := ⟨⟨hx, hb, hml, hown, hts⟩, hE⟩
  have hl : lv_has ls 1 [(0, .ref a0)] := hl
  unfold F_X7_width at hF0
  refine lv_aload_n hx hb dX7_width_0 rfl (lv_at hl 0 rfl) ?_
  obtain ⟨v1, ev1, hF0⟩ := kk_bind hF0
  refine kk_callV 0 0 hw (kk_runV (As := []) (rest := []) F hw hl.1 (c_X7_requireBuilt l G cI cJ ad a0 a1 a4 a22 a24 a38 x_fingerprintMask x_built N v1 ev1 H.size) gX7_width_X7_requireBuilt rfl ⟨rfl, md_X7_requireBuilt⟩ ⟨Nat.le_of_ble_eq_true rfl, Nat.le_of_ble_eq_true rfl⟩ ⟨Nat.le_of_ble_eq_true rfl, Nat.le_of_ble_eq_true rfl⟩ 0 7 rfl rfl rfl rfl (Nat.le_of_ble_eq_true rfl) dX7_width_1) ⟨rfl, rfl⟩ [0] (by decide) rfl rfl (fun H locs hw => ?_)
  have hw : kk_wd G A s.heap [(a0, .inr (7, [.ref a1, .ref a4, .ref a22, .ref a24, .ref a38, .int x_fingerprintMask, .int x_built])), (a22, .inr (5, [.ref a23, .int x_packer_bitsEach, .int x_packer_wordCount]))] H locs := hw
  refine lv_aload_n hx hb dX7_width_4 rfl (lv_at hl 0 rfl) ?_
  refine kk_get (T := TX7) F hw ui_X7_width_X7 0 rfl rfl 2 (by decide) m_X7_width_Cond_fieldLink_RX7_26_PerfectPew_packer_LPerfectPew_Packer_ rfl dX7_width_5 ?_
  refine kk_getN (T := TX5) F hw ui_X7_width_X5 1 rfl rfl 1 (by decide) nl_8 rfl dX7_width_8 ?_
  have hy := Option.some.inj hF0
  subst hy
  exact hret dX7_width_11 (by decide) (by decide) hw
theorem ui_X7_word_X7 : ∀ w ∈ u_ws RX7 TX7 7, w ∈ wsX7_word := by decide +kernel
theorem m_X7_word_Cond_fieldLink_RX7_26_PerfectPew_packer_LPerfectPew_Packer_ : Cond.fieldLink RX7 26 "PerfectPew" "packer" "LPerfectPew$Packer;" ∈ wsX7_word := by decide +kernel
theorem ui_X7_word_X5 : ∀ w ∈ u_ws RX5 TX5 3, w ∈ wsX7_word := by decide +kernel
theorem m_X7_word_Cond_initialized_yX5_wordAt_cls : Cond.initialized yX5_wordAt.cls ∈ wsX7_word := by decide +kernel
theorem m_X7_word_Cond_instanceMethod_yX5_wordAt : Cond.instanceMethod yX5_wordAt ∈ wsX7_word := by decide +kernel
theorem m_X7_word_Cond_selects_RX5_yX5_wordAt_yX5_wordAt : Cond.selects RX5 yX5_wordAt yX5_wordAt ∈ wsX7_word := by decide +kernel
set_option maxRecDepth 100000 in
set_option maxHeartbeats 4000000 in
theorem c_X7_word (l : Launch) (G : va_G) (cI cJ : ClassId) (ad : Nat → Nat) (a0 a1 a4 a22 a23 a24 a38 : Nat) (x_fingerprintMask : Int32) (x_built : Int32) (x_packer_bitsEach : Int32) (x_packer_wordCount : Int32) (f_packer_words : Nat → Int64) (i1 : Int32) (N : Nat) (x : Int64) (hF0 : F_X7_word N x_built x_packer_wordCount f_packer_words i1 = some x) : kk_L l yX7_word wsX7_word 1 0 0 21 [.ref a0, .int i1] G cI cJ ad [(a0, .inr (7, [.ref a1, .ref a4, .ref a22, .ref a24, .ref a38, .int x_fingerprintMask, .int x_built])), (a22, .inr (5, [.ref a23, .int x_packer_bitsEach, .int x_packer_wordCount])), (a23, .inl (cJ, 17, .inr (.inl f_packer_words)))] x [(a0, .inr (7, [.ref a1, .ref a4, .ref a22, .ref a24, .ref a38, .int x_fingerprintMask, .int x_built])), (a22, .inr (5, [.ref a23, .int x_packer_bitsEach, .int x_packer_wordCount])), (a23, .inl (cJ, 17, .inr (.inl f_packer_words)))] := by
  refine kk_ofL (cc := cX7_word) (maxL := 2) (by decide) rfl (Nat.le_of_ble_eq_true rfl) ?_
  intro p e s m below meth c A Q ls H locs hx hb hml hown hts hE hw hl hret
  have F : kk_at p m c cX7_word 2 s _ wsX7_word RX7 G cI cJ ad A := ⟨⟨hx, hb, hml, hown, hts⟩, hE⟩
  have hl : lv_has ls 2 [(0, .ref a0), (1, .int i1)] := hl
  unfold F_X7_word at hF0
  refine lv_aload_n hx hb dX7_word_0 rfl (lv_at hl 0 rfl) ?_
  obtain ⟨v1, ev1, hF0⟩ := kk_bind hF0
  refine kk_callV 0 0 hw (kk_runV (As := []) (rest := []) F hw hl.1 (c_X7_requireBuilt l G cI cJ ad a0 a1 a4 a22 a24 a38 x_fingerprintMask x_built N v1 ev1 H.size) gX7_word_X7_requireBuilt rfl ⟨rfl, md_X7_requireBuilt⟩ ⟨Nat.le_of_ble_eq_true rfl, Nat.le_of_ble_eq_true rfl⟩ ⟨Nat.le_of_ble_eq_true rfl, Nat.le_of_ble_eq_true rfl⟩ 0 7 rfl rfl rfl rfl (Nat.le_of_ble_eq_true rfl) dX7_word_1) ⟨rfl, rfl⟩ [0] (by decide) rfl rfl (fun H locs hw => ?_)
  have hw : kk_wd G A s.heap [(a0, .inr (7, [.ref a1, .ref a4, .ref a22, .ref a24, .ref a38, .int x_fingerprintMask, .int x_built])), (a22, .inr (5, [.ref a23, .int x_packer_bitsEach, .int x_packer_wordCount])), (a23, .inl (cJ, 17, .inr (.inl f_packer_words)))] H locs := hw
  refine lv_iload_n hx hb dX7_word_4 rfl (lv_at hl 1 rfl) ?_
  refine lv_aload_n hx hb dX7_word_5 rfl (lv_at hl 0 rfl) ?_
  refine kk_get (T := TX7) F hw ui_X7_word_X7 0 rfl rfl 2 (by decide) m_X7_word_Cond_fieldLink_RX7_26_PerfectPew_packer_LPerfectPew_Packer_ rfl dX7_word_6 ?_
  refine kk_getN (T := TX5) F hw ui_X7_word_X5 1 rfl rfl 2 (by decide) nl_9 rfl dX7_word_9 ?_
  obtain ⟨v2, ev2, hF0⟩ := kk_bind hF0
  refine kk_callV 0 0 hw (kk_runS (As := [.int i1, .int x_packer_wordCount]) (rest := []) F hw hl.1 (c_X7_requireBelow l G cI cJ ad i1 x_packer_wordCount N v2 ev2 H.size) gX7_word_X7_requireBelow rfl md_X7_requireBelow ⟨Nat.le_of_ble_eq_true rfl, Nat.le_of_ble_eq_true rfl⟩ ⟨Nat.le_of_ble_eq_true rfl, Nat.le_of_ble_eq_true rfl⟩ rfl (Nat.le_of_ble_eq_true rfl) dX7_word_12) ⟨rfl, rfl⟩ [] (by decide) rfl rfl (fun H locs hw => ?_)
  refine lv_aload_n hx hb dX7_word_15 rfl (lv_at hl 0 rfl) ?_
  refine kk_get (T := TX7) F hw ui_X7_word_X7 0 rfl rfl 2 (by decide) m_X7_word_Cond_fieldLink_RX7_26_PerfectPew_packer_LPerfectPew_Packer_ rfl dX7_word_16 ?_
  refine lv_iload_n hx hb dX7_word_19 rfl (lv_at hl 1 rfl) ?_
  obtain ⟨v3, ev3, hF0⟩ := kk_bind hF0
  refine kk_callL 0 0 hw (kk_runN (As := [.int i1]) (rest := []) F hw hl.1 (c_X5_wordAt l G cI cJ ad a22 a23 x_packer_bitsEach x_packer_wordCount f_packer_words i1 N v3 ev3 H.size) gX7_word_X5_wordAt_n164 rfl nl_67 m_X7_word_Cond_initialized_yX5_wordAt_cls m_X7_word_Cond_instanceMethod_yX5_wordAt m_X7_word_Cond_selects_RX5_yX5_wordAt_yX5_wordAt md_X5_wordAt ⟨Nat.le_of_ble_eq_true rfl, Nat.le_of_ble_eq_true rfl⟩ ⟨Nat.le_of_ble_eq_true rfl, Nat.le_of_ble_eq_true rfl⟩ 1 5 rfl rfl rfl rfl (Nat.le_of_ble_eq_true rfl) dX7_word_20) ⟨rfl, rfl⟩ [1, 2] (by decide) rfl rfl (fun H locs hw => ?_)
  have hw : kk_wd G A s.heap [(a0, .inr (7, [.ref a1, .ref a4, .ref a22, .ref a24, .ref a38, .int x_fingerprintMask, .int x_built])), (a22, .inr (5, [.ref a23, .int x_packer_bitsEach, .int x_packer_wordCount])), (a23, .inl (cJ, 17, .inr (.inl f_packer_words)))] H locs := hw
  have hy := Option.some.inj hF0
  subst hy
  exact hret dX7_word_23 (by decide) (by decide) hw
theorem ui_X7_byGraph_X7 : ∀ w ∈ u_ws RX7 TX7 7, w ∈ wsX7_byGraph := by decide +kernel
theorem m_X7_byGraph_Cond_fieldLink_RX7_33_PerfectPew_graph_LPerfectPew_Graph_ : Cond.fieldLink RX7 33 "PerfectPew" "graph" "LPerfectPew$Graph;" ∈ wsX7_byGraph := by decide +kernel
theorem m_X7_byGraph_Cond_initialized_yX1_sumFor_cls : Cond.initialized yX1_sumFor.cls ∈ wsX7_byGraph := by decide +kernel
theorem m_X7_byGraph_Cond_instanceMethod_yX1_sumFor : Cond.instanceMethod yX1_sumFor ∈ wsX7_byGraph := by decide +kernel
theorem m_X7_byGraph_Cond_selects_RX1_yX1_sumFor_yX1_sumFor : Cond.selects RX1 yX1_sumFor yX1_sumFor ∈ wsX7_byGraph := by decide +kernel
set_option maxRecDepth 100000 in
set_option maxHeartbeats 4000000 in
theorem c_X7_byGraph (l : Launch) (G : va_G) (cI cJ : ClassId) (ad : Nat → Nat) (a0 a1 a4 a22 a24 a25 a32 a34 a35 a36 a38 : Nat) (x_fingerprintMask : Int32) (x_built : Int32) (x_graph_reachedCount : Int32) (x_graph_keyCount : Int32) (x_graph_vertexCount : Int32) (x_graph_seed : Int32) (f_graph_values : Nat → Int32) (i1 : Int32) (N : Nat) (x : Int32) (hF0 : F_X7_byGraph N x_built x_graph_keyCount x_graph_vertexCount x_graph_seed f_graph_values i1 = some x) : kk_I l yX7_byGraph wsX7_byGraph 3 0 0 67 [.ref a0, .int i1] G cI cJ ad [(a0, .inr (7, [.ref a1, .ref a4, .ref a22, .ref a24, .ref a38, .int x_fingerprintMask, .int x_built])), (a24, .inr (1, [.ref a25, .ref a32, .ref a34, .ref a36, .int x_graph_reachedCount, .int x_graph_keyCount, .int x_graph_vertexCount, .int x_graph_seed])), (a34, .inr (6, [.ref a35])), (a35, .inl (cI, 360, .inl f_graph_values))] x [(a0, .inr (7, [.ref a1, .ref a4, .ref a22, .ref a24, .ref a38, .int x_fingerprintMask, .int x_built])), (a24, .inr (1, [.ref a25, .ref a32, .ref a34, .ref a36, .int x_graph_reachedCount, .int x_graph_keyCount, .int x_graph_vertexCount, .int x_graph_seed])), (a34, .inr (6, [.ref a35])), (a35, .inl (cI, 360, .inl f_graph_values))] := by
  refine kk_ofI (cc := cX7_byGraph) (maxL := 2) (by decide) rfl (Nat.le_of_ble_eq_true rfl) ?_
  intro p e s m below meth c A Q ls H locs hx hb hml hown hts hE hw hl hret
  have F : kk_at p m c cX7_byGraph 2 s _ wsX7_byGraph RX7 G cI cJ ad A := ⟨⟨hx, hb, hml, hown, hts⟩, hE⟩
  have hl : lv_has ls 2 [(0, .ref a0), (1, .int i1)] := hl
  unfold F_X7_byGraph at hF0
  refine lv_iload_n hx hb dX7_byGraph_0 rfl (lv_at hl 1 rfl) ?_
  obtain ⟨v1, ev1, hF0⟩ := kk_bind hF0
  refine kk_callV 0 0 hw (kk_runS (As := [.int i1]) (rest := []) F hw hl.1 (c_X7_requireKey l G cI cJ ad i1 N v1 ev1 H.size) gX7_byGraph_X7_requireKey rfl md_X7_requireKey ⟨Nat.le_of_ble_eq_true rfl, Nat.le_of_ble_eq_true rfl⟩ ⟨Nat.le_of_ble_eq_true rfl, Nat.le_of_ble_eq_true rfl⟩ rfl (Nat.le_of_ble_eq_true rfl) dX7_byGraph_1) ⟨rfl, rfl⟩ [] (by decide) rfl rfl (fun H locs hw => ?_)
  refine lv_aload_n hx hb dX7_byGraph_4 rfl (lv_at hl 0 rfl) ?_
  obtain ⟨v2, ev2, hF0⟩ := kk_bind hF0
  refine kk_callV 0 0 hw (kk_runV (As := []) (rest := []) F hw hl.1 (c_X7_requireBuilt l G cI cJ ad a0 a1 a4 a22 a24 a38 x_fingerprintMask x_built N v2 ev2 H.size) gX7_byGraph_X7_requireBuilt rfl ⟨rfl, md_X7_requireBuilt⟩ ⟨Nat.le_of_ble_eq_true rfl, Nat.le_of_ble_eq_true rfl⟩ ⟨Nat.le_of_ble_eq_true rfl, Nat.le_of_ble_eq_true rfl⟩ 0 7 rfl rfl rfl rfl (Nat.le_of_ble_eq_true rfl) dX7_byGraph_5) ⟨rfl, rfl⟩ [0] (by decide) rfl rfl (fun H locs hw => ?_)
  have hw : kk_wd G A s.heap [(a0, .inr (7, [.ref a1, .ref a4, .ref a22, .ref a24, .ref a38, .int x_fingerprintMask, .int x_built])), (a24, .inr (1, [.ref a25, .ref a32, .ref a34, .ref a36, .int x_graph_reachedCount, .int x_graph_keyCount, .int x_graph_vertexCount, .int x_graph_seed])), (a34, .inr (6, [.ref a35])), (a35, .inl (cI, 360, .inl f_graph_values))] H locs := hw
  refine lv_aload_n hx hb dX7_byGraph_8 rfl (lv_at hl 0 rfl) ?_
  refine kk_get (T := TX7) F hw ui_X7_byGraph_X7 0 rfl rfl 3 (by decide) m_X7_byGraph_Cond_fieldLink_RX7_33_PerfectPew_graph_LPerfectPew_Graph_ rfl dX7_byGraph_9 ?_
  refine lv_iload_n hx hb dX7_byGraph_12 rfl (lv_at hl 1 rfl) ?_
  obtain ⟨v3, ev3, hF0⟩ := kk_bind hF0
  refine kk_callI 0 0 hw (kk_runN (As := [.int i1]) (rest := []) F hw hl.1 (c_X1_sumFor l G cI cJ ad a24 a25 a32 a34 a35 a36 x_graph_reachedCount x_graph_keyCount x_graph_vertexCount x_graph_seed f_graph_values i1 N v3 ev3 H.size) gX7_byGraph_X1_sumFor_n168 rfl nl_68 m_X7_byGraph_Cond_initialized_yX1_sumFor_cls m_X7_byGraph_Cond_instanceMethod_yX1_sumFor m_X7_byGraph_Cond_selects_RX1_yX1_sumFor_yX1_sumFor md_X1_sumFor ⟨Nat.le_of_ble_eq_true rfl, Nat.le_of_ble_eq_true rfl⟩ ⟨Nat.le_of_ble_eq_true rfl, Nat.le_of_ble_eq_true rfl⟩ 1 1 rfl rfl rfl rfl (Nat.le_of_ble_eq_true rfl) dX7_byGraph_13) ⟨rfl, rfl⟩ [1, 2, 3] (by decide) rfl rfl (fun H locs hw => ?_)
  have hw : kk_wd G A s.heap [(a0, .inr (7, [.ref a1, .ref a4, .ref a22, .ref a24, .ref a38, .int x_fingerprintMask, .int x_built])), (a24, .inr (1, [.ref a25, .ref a32, .ref a34, .ref a36, .int x_graph_reachedCount, .int x_graph_keyCount, .int x_graph_vertexCount, .int x_graph_seed])), (a34, .inr (6, [.ref a35])), (a35, .inl (cI, 360, .inl f_graph_values))] H locs := hw
  have hy := Option.some.inj hF0
  subst hy
  exact hret dX7_byGraph_16 (by decide) (by decide) hw
