theorem ui_X8_displaces_X8 : ∀ w ∈ u_ws RX8 TX8 20, w ∈ wsX8_displaces := by decide +kernel
theorem m_X8_displaces_Cond_fieldLink_RX8_31_PerfectPewModel_triedOwner_I_ : Cond.fieldLink RX8 31 "PerfectPewModel" "triedOwner" "[I" ∈ wsX8_displaces := by decide +kernel
theorem m_X8_displaces_Cond_fieldLink_RX8_28_PerfectPewModel_triedShift_I_ : Cond.fieldLink RX8 28 "PerfectPewModel" "triedShift" "[I" ∈ wsX8_displaces := by decide +kernel
set_option maxRecDepth 100000 in
set_option maxHeartbeats 4000000 in
theorem c_X8_displaces (l : Launch) (G : va_G) (cI cJ : ClassId) (ad : Nat → Nat) (a0 a1 a2 a3 a4 a5 a6 a7 a8 a9 a10 a11 a12 : Nat) (x_many : Int32) (x_built : Int32) (x_seed : Int32) (x_graphSeed : Int32) (x_bits : Int32) (x_bucketMany : Int32) (x_width : Int32) (x_thrown : Int32) (f_keys : Nat → Int32) (f_some : Nat → Int32) (f_triedShift : Nat → Int32) (f_triedOwner : Nat → Int32) (i1 : Int32) (i2 : Int32) (N : Nat) (x : (Int32 × (Nat → Int32) × (Nat → Int32) × (Nat → Int32))) (hF0 : F_X8_displaces N x_many f_keys f_some f_triedShift f_triedOwner i1 i2 = some x) : kk_I l yX8_displaces wsX8_displaces 6 0 0 140 [.ref a0, .int i1, .int i2] G cI cJ ad [(a0, .inr (8, [.ref a1, .int x_many, .int x_built, .int x_seed, .int x_graphSeed, .int x_bits, .int x_bucketMany, .int x_width, .ref a2, .ref a3, .ref a4, .ref a5, .ref a6, .ref a7, .ref a8, .ref a9, .ref a10, .ref a11, .ref a12, .int x_thrown])), (a1, .inl (cI, 120, .inl f_keys)), (a6, .inl (cI, 120, .inl f_some)), (a7, .inl (cI, 120, .inl f_triedShift)), (a8, .inl (cI, 120, .inl f_triedOwner))] x.1 [(a0, .inr (8, [.ref a1, .int x_many, .int x_built, .int x_seed, .int x_graphSeed, .int x_bits, .int x_bucketMany, .int x_width, .ref a2, .ref a3, .ref a4, .ref a5, .ref a6, .ref a7, .ref a8, .ref a9, .ref a10, .ref a11, .ref a12, .int x_thrown])), (a1, .inl (cI, 120, .inl f_keys)), (a6, .inl (cI, 120, .inl x.2.1)), (a7, .inl (cI, 120, .inl x.2.2.1)), (a8, .inl (cI, 120, .inl x.2.2.2))] := by
  refine kk_ofZ (cc := cX8_displaces) (maxL := 7) (by decide) rfl (Nat.le_of_ble_eq_true rfl) ?_
  intro p e s m below meth c A Q ls H locs hx hb hml hown hts hE hw hl hret
  have F : kk_at p m c cX8_displaces 7 s _ wsX8_displaces RX8 G cI cJ ad A := ⟨⟨hx, hb, hml, hown, hts⟩, hE⟩
  have hl : lv_has ls 7 [(0, .ref a0), (1, .int i1), (2, .int i2)] := hl
  unfold F_X8_displaces at hF0
  have hJ1 : ∀ (f_some_1 : Nat → Int32) (f_triedShift_1 : Nat → Int32) (f_triedOwner_1 : Nat → Int32) (i4_1 : Int32), J_X8_displaces_145 N f_some_1 f_triedShift_1 f_triedOwner_1 i4_1 = some x → ∀ (H : Heap) (locs : List Loc) (ls : Array Slot), kk_wd G A s.heap [(a0, .inr (8, [.ref a1, .int x_many, .int x_built, .int x_seed, .int x_graphSeed, .int x_bits, .int x_bucketMany, .int x_width, .ref a2, .ref a3, .ref a4, .ref a5, .ref a6, .ref a7, .ref a8, .ref a9, .ref a10, .ref a11, .ref a12, .int x_thrown])), (a1, .inl (cI, 120, .inl f_keys)), (a6, .inl (cI, 120, .inl f_some_1)), (a7, .inl (cI, 120, .inl f_triedShift_1)), (a8, .inl (cI, 120, .inl f_triedOwner_1))] H locs → lv_has ls 7 [(4, .int i4_1)] → W p l e (kk_rm 6 0 0 140) s m ([.ref a0, .int i1, .int i2] : List Value).toArray below meth c H locs 0 0 Q (F0 m 145 ls []) := by
    intro f_some_1 f_triedShift_1 f_triedOwner_1 i4_1 hF0 H locs ls hw hl
    unfold J_X8_displaces_145 at hF0
    refine lv_iload hx hb dX8_displaces_145 (lv_at hl 0 rfl) ?_
    obtain ⟨u2, eu2, hF0⟩ := kk_bind hF0
    have hy := Option.some.inj hF0
    subst hy
    exact hret dX8_displaces_147 (by decide) (by decide) (kk_bl_ok eu2) hw
  have hJ3 : ∀ (f_some_3 : Nat → Int32) (f_triedShift_3 : Nat → Int32) (f_triedOwner_3 : Nat → Int32) (i3_3 : Int32), J_X8_displaces_72 N x_many f_keys f_some_3 f_triedShift_3 f_triedOwner_3 i1 i2 i3_3 = some x → ∀ (H : Heap) (locs : List Loc) (ls : Array Slot), kk_wd G A s.heap [(a0, .inr (8, [.ref a1, .int x_many, .int x_built, .int x_seed, .int x_graphSeed, .int x_bits, .int x_bucketMany, .int x_width, .ref a2, .ref a3, .ref a4, .ref a5, .ref a6, .ref a7, .ref a8, .ref a9, .ref a10, .ref a11, .ref a12, .int x_thrown])), (a1, .inl (cI, 120, .inl f_keys)), (a6, .inl (cI, 120, .inl f_some_3)), (a7, .inl (cI, 120, .inl f_triedShift_3)), (a8, .inl (cI, 120, .inl f_triedOwner_3))] H locs → lv_has ls 7 [(0, .ref a0), (1, .int i1), (2, .int i2), (3, .int i3_3)] → W p l e (kk_rm 6 0 0 140) s m ([.ref a0, .int i1, .int i2] : List Value).toArray below meth c H locs 0 0 Q (F0 m 72 ls []) := by
    intro f_some_3 f_triedShift_3 f_triedOwner_3 i3_3 hF0 H locs ls hw hl
    unfold J_X8_displaces_72 at hF0
    refine lv_iconst (v := 1) hx hb dX8_displaces_72 (by decide) ?_
    refine lv_istore (lv' := [(4, .int 1), (0, .ref a0), (1, .int i1), (2, .int i2), (3, .int i3_3)]) hx hb dX8_displaces_73 hl (by decide) rfl (fun ls hl => ?_)
    refine lv_iload_n hx hb dX8_displaces_75 rfl (lv_at hl 4 rfl) ?_
    refine lv_istore (lv' := [(5, .int i3_3), (4, .int 1), (0, .ref a0), (1, .int i1), (2, .int i2), (3, .int i3_3)]) hx hb dX8_displaces_76 hl (by decide) rfl (fun ls hl => ?_)
    obtain ⟨z4, hz5, hF0⟩ := kk_bind hF0
    have hL5 : ∀ (n5 : Nat) (f_some_5 : Nat → Int32) (f_triedShift_5 : Nat → Int32) (f_triedOwner_5 : Nat → Int32) (i4_5 : Int32) (i5_5 : Int32), kk_iter (fun (σ : ((Nat → Int32) × (Nat → Int32) × (Nat → Int32) × Int32 × Int32)) => L_X8_displaces_78 N x_many f_keys i1 i2 σ.1 σ.2.1 σ.2.2.1 σ.2.2.2.1 σ.2.2.2.2) n5 (f_some_5, f_triedShift_5, f_triedOwner_5, i4_5, i5_5) = some z4 → ∀ (H : Heap) (locs : List Loc) (ls : Array Slot), kk_wd G A s.heap [(a0, .inr (8, [.ref a1, .int x_many, .int x_built, .int x_seed, .int x_graphSeed, .int x_bits, .int x_bucketMany, .int x_width, .ref a2, .ref a3, .ref a4, .ref a5, .ref a6, .ref a7, .ref a8, .ref a9, .ref a10, .ref a11, .ref a12, .int x_thrown])), (a1, .inl (cI, 120, .inl f_keys)), (a6, .inl (cI, 120, .inl f_some_5)), (a7, .inl (cI, 120, .inl f_triedShift_5)), (a8, .inl (cI, 120, .inl f_triedOwner_5))] H locs → lv_has ls 7 [(0, .ref a0), (1, .int i1), (2, .int i2), (4, .int i4_5), (5, .int i5_5)] → W p l e (kk_rm 6 0 0 140) s m ([.ref a0, .int i1, .int i2] : List Value).toArray below meth c H locs 0 0 Q (F0 m 78 ls []) := by
      intro n5
      induction n5 with
      | zero => intro f_some_5 f_triedShift_5 f_triedOwner_5 i4_5 i5_5 h; exact kk_iter0 h
      | succ n5 ih5 =>
        intro f_some_5 f_triedShift_5 f_triedOwner_5 i4_5 i5_5 hq H locs ls hw hl
        obtain ⟨y5, hF1, hI1⟩ := kk_iterS hq
        have hF1 : L_X8_displaces_78 N x_many f_keys i1 i2 f_some_5 f_triedShift_5 f_triedOwner_5 i4_5 i5_5 = some y5 := hF1
        unfold L_X8_displaces_78 at hF1
        have hJ6 : ∀ (f_some_6 : Nat → Int32) (f_triedShift_6 : Nat → Int32) (f_triedOwner_6 : Nat → Int32) (i4_6 : Int32) (i5_6 : Int32), J_X8_displaces_139 N f_some_6 f_triedShift_6 f_triedOwner_6 i4_6 i5_6 = some y5 → ∀ (H : Heap) (locs : List Loc) (ls : Array Slot), kk_wd G A s.heap [(a0, .inr (8, [.ref a1, .int x_many, .int x_built, .int x_seed, .int x_graphSeed, .int x_bits, .int x_bucketMany, .int x_width, .ref a2, .ref a3, .ref a4, .ref a5, .ref a6, .ref a7, .ref a8, .ref a9, .ref a10, .ref a11, .ref a12, .int x_thrown])), (a1, .inl (cI, 120, .inl f_keys)), (a6, .inl (cI, 120, .inl f_some_6)), (a7, .inl (cI, 120, .inl f_triedShift_6)), (a8, .inl (cI, 120, .inl f_triedOwner_6))] H locs → lv_has ls 7 [(0, .ref a0), (1, .int i1), (2, .int i2), (4, .int i4_6), (5, .int i5_6)] → W p l e (kk_rm 6 0 0 140) s m ([.ref a0, .int i1, .int i2] : List Value).toArray below meth c H locs 0 0 Q (F0 m 139 ls []) := by
          intro f_some_6 f_triedShift_6 f_triedOwner_6 i4_6 i5_6 hF1 H locs ls hw hl
          unfold J_X8_displaces_139 at hF1
          refine lv_iinc (v := (i5_6 + (-1))) (lv' := [(5, .int (i5_6 + (-1))), (0, .ref a0), (1, .int i1), (2, .int i2), (4, .int i4_6)]) hx hb dX8_displaces_139 hl (k := 4) rfl rfl (by decide) rfl (fun ls hl => ?_)
          refine lv_goto (tgt := 78) hx hb dX8_displaces_142 (by decide) ?_
          have hy := Option.some.inj hF1
          subst hy
          exact ih5 f_some_6 f_triedShift_6 f_triedOwner_6 i4_6 (i5_6 + (-1)) hI1 _ _ _ hw (lv_sub hl [1, 2, 3, 4, 0] rfl)
        refine lv_iload hx hb dX8_displaces_78 (lv_at hl 4 rfl) ?_
        refine lv_if_le (tgt := 145) hx hb dX8_displaces_80 (by decide) (fun c7 => ?_) (fun c7 => ?_)
        · have hF1 := (if_pos c7).symm.trans hF1
          have hy := Option.some.inj hF1
          subst hy
          have hz := Option.some.inj hI1
          subst hz
          exact hJ1 f_some_5 f_triedShift_5 f_triedOwner_5 i4_5 hF0 _ _ _ hw (lv_sub hl [3] rfl)
        · have hF1 := (if_neg c7).symm.trans hF1
          refine lv_iload hx hb dX8_displaces_83 (lv_at hl 3 rfl) ?_
          refine lv_if_eq (tgt := 145) hx hb dX8_displaces_85 (by decide) (fun c8 => ?_) (fun c8 => ?_)
          · have hF1 := (if_pos c8).symm.trans hF1
            have hy := Option.some.inj hF1
            subst hy
            have hz := Option.some.inj hI1
            subst hz
            exact hJ1 f_some_5 f_triedShift_5 f_triedOwner_5 i4_5 hF0 _ _ _ hw (lv_sub hl [3] rfl)
          · have hF1 := (if_neg c8).symm.trans hF1
            refine lv_iconst (v := 0) hx hb dX8_displaces_88 (by decide) ?_
            refine lv_istore (lv' := [(6, .int 0), (0, .ref a0), (1, .int i1), (2, .int i2), (4, .int i4_5), (5, .int i5_5)]) hx hb dX8_displaces_89 hl (by decide) rfl (fun ls hl => ?_)
            obtain ⟨z9, hz10, hF1⟩ := kk_bind hF1
            have hL10 : ∀ (n10 : Nat) (f_some_10 : Nat → Int32) (f_triedShift_10 : Nat → Int32) (f_triedOwner_10 : Nat → Int32) (i4_10 : Int32) (i6_10 : Int32), kk_iter (fun (σ : ((Nat → Int32) × (Nat → Int32) × (Nat → Int32) × Int32 × Int32)) => L_X8_displaces_91 N x_many f_keys i1 i2 i5_5 σ.1 σ.2.1 σ.2.2.1 σ.2.2.2.1 σ.2.2.2.2) n10 (f_some_10, f_triedShift_10, f_triedOwner_10, i4_10, i6_10) = some z9 → ∀ (H : Heap) (locs : List Loc) (ls : Array Slot), kk_wd G A s.heap [(a0, .inr (8, [.ref a1, .int x_many, .int x_built, .int x_seed, .int x_graphSeed, .int x_bits, .int x_bucketMany, .int x_width, .ref a2, .ref a3, .ref a4, .ref a5, .ref a6, .ref a7, .ref a8, .ref a9, .ref a10, .ref a11, .ref a12, .int x_thrown])), (a1, .inl (cI, 120, .inl f_keys)), (a6, .inl (cI, 120, .inl f_some_10)), (a7, .inl (cI, 120, .inl f_triedShift_10)), (a8, .inl (cI, 120, .inl f_triedOwner_10))] H locs → lv_has ls 7 [(0, .ref a0), (1, .int i1), (2, .int i2), (4, .int i4_10), (5, .int i5_5), (6, .int i6_10)] → W p l e (kk_rm 6 0 0 140) s m ([.ref a0, .int i1, .int i2] : List Value).toArray below meth c H locs 0 0 Q (F0 m 91 ls []) := by
              intro n10
              induction n10 with
              | zero => intro f_some_10 f_triedShift_10 f_triedOwner_10 i4_10 i6_10 h; exact kk_iter0 h
              | succ n10 ih10 =>
                intro f_some_10 f_triedShift_10 f_triedOwner_10 i4_10 i6_10 hq H locs ls hw hl
                obtain ⟨y10, hF2, hI2⟩ := kk_iterS hq
                have hF2 : L_X8_displaces_91 N x_many f_keys i1 i2 i5_5 f_some_10 f_triedShift_10 f_triedOwner_10 i4_10 i6_10 = some y10 := hF2
                unfold L_X8_displaces_91 at hF2
                have hJ11 : ∀ (f_some_11 : Nat → Int32) (f_triedShift_11 : Nat → Int32) (f_triedOwner_11 : Nat → Int32) (i6_11 : Int32) (s0_11 : Int32), J_X8_displaces_131 N f_some_11 f_triedShift_11 f_triedOwner_11 i6_11 s0_11 = some y10 → ∀ (H : Heap) (locs : List Loc) (ls : Array Slot), kk_wd G A s.heap [(a0, .inr (8, [.ref a1, .int x_many, .int x_built, .int x_seed, .int x_graphSeed, .int x_bits, .int x_bucketMany, .int x_width, .ref a2, .ref a3, .ref a4, .ref a5, .ref a6, .ref a7, .ref a8, .ref a9, .ref a10, .ref a11, .ref a12, .int x_thrown])), (a1, .inl (cI, 120, .inl f_keys)), (a6, .inl (cI, 120, .inl f_some_11)), (a7, .inl (cI, 120, .inl f_triedShift_11)), (a8, .inl (cI, 120, .inl f_triedOwner_11))] H locs → lv_has ls 7 [(0, .ref a0), (1, .int i1), (2, .int i2), (5, .int i5_5), (6, .int i6_11)] → W p l e (kk_rm 6 0 0 140) s m ([.ref a0, .int i1, .int i2] : List Value).toArray below meth c H locs 0 0 Q (F0 m 131 ls [.int s0_11]) := by
                  intro f_some_11 f_triedShift_11 f_triedOwner_11 i6_11 s0_11 hF2 H locs ls hw hl
                  unfold J_X8_displaces_131 at hF2
                  refine lv_istore (lv' := [(4, .int s0_11), (0, .ref a0), (1, .int i1), (2, .int i2), (5, .int i5_5), (6, .int i6_11)]) hx hb dX8_displaces_131 hl (by decide) rfl (fun ls hl => ?_)
                  refine lv_iinc (v := (i6_11 + 1)) (lv' := [(6, .int (i6_11 + 1)), (4, .int s0_11), (0, .ref a0), (1, .int i1), (2, .int i2), (5, .int i5_5)]) hx hb dX8_displaces_133 hl (k := 5) rfl rfl (by decide) rfl (fun ls hl => ?_)
                  refine lv_goto (tgt := 91) hx hb dX8_displaces_136 (by decide) ?_
                  have hy := Option.some.inj hF2
                  subst hy
                  exact ih10 f_some_11 f_triedShift_11 f_triedOwner_11 s0_11 (i6_11 + 1) hI2 _ _ _ hw (lv_sub hl [2, 3, 4, 1, 5, 0] rfl)
                have hJ12 : ∀ (f_some_12 : Nat → Int32) (f_triedShift_12 : Nat → Int32) (f_triedOwner_12 : Nat → Int32) (i6_12 : Int32), J_X8_displaces_126 N f_some_12 f_triedShift_12 f_triedOwner_12 i6_12 = some y10 → ∀ (H : Heap) (locs : List Loc) (ls : Array Slot), kk_wd G A s.heap [(a0, .inr (8, [.ref a1, .int x_many, .int x_built, .int x_seed, .int x_graphSeed, .int x_bits, .int x_bucketMany, .int x_width, .ref a2, .ref a3, .ref a4, .ref a5, .ref a6, .ref a7, .ref a8, .ref a9, .ref a10, .ref a11, .ref a12, .int x_thrown])), (a1, .inl (cI, 120, .inl f_keys)), (a6, .inl (cI, 120, .inl f_some_12)), (a7, .inl (cI, 120, .inl f_triedShift_12)), (a8, .inl (cI, 120, .inl f_triedOwner_12))] H locs → lv_has ls 7 [(0, .ref a0), (1, .int i1), (2, .int i2), (5, .int i5_5), (6, .int i6_12)] → W p l e (kk_rm 6 0 0 140) s m ([.ref a0, .int i1, .int i2] : List Value).toArray below meth c H locs 0 0 Q (F0 m 126 ls []) := by
                  intro f_some_12 f_triedShift_12 f_triedOwner_12 i6_12 hF2 H locs ls hw hl
                  unfold J_X8_displaces_126 at hF2
                  refine lv_iconst (v := 1) hx hb dX8_displaces_126 (by decide) ?_
                  refine lv_goto (tgt := 131) hx hb dX8_displaces_127 (by decide) ?_
                  exact hJ11 f_some_12 f_triedShift_12 f_triedOwner_12 i6_12 1 hF2 _ _ _ hw (lv_sub hl [0, 1, 2, 3, 4] rfl)
                refine lv_iload hx hb dX8_displaces_91 (lv_at hl 5 rfl) ?_
                refine lv_iload_n hx hb dX8_displaces_93 rfl (lv_at hl 2 rfl) ?_
                refine lv_icmp_ge (tgt := 139) hx hb dX8_displaces_94 (by decide) (fun c13 => ?_) (fun c13 => ?_)
                · have hF2 := (if_pos c13).symm.trans hF2
                  have hy := Option.some.inj hF2
                  subst hy
                  have hz := Option.some.inj hI2
                  subst hz
                  exact hJ6 f_some_10 f_triedShift_10 f_triedOwner_10 i4_10 i5_5 hF1 _ _ _ hw (lv_sub hl [0, 1, 2, 3, 4] rfl)
                · have hF2 := (if_neg c13).symm.trans hF2
                  refine lv_iload hx hb dX8_displaces_97 (lv_at hl 3 rfl) ?_
                  refine lv_if_eq (tgt := 139) hx hb dX8_displaces_99 (by decide) (fun c14 => ?_) (fun c14 => ?_)
                  · have hF2 := (if_pos c14).symm.trans hF2
                    have hy := Option.some.inj hF2
                    subst hy
                    have hz := Option.some.inj hI2
                    subst hz
                    exact hJ6 f_some_10 f_triedShift_10 f_triedOwner_10 i4_10 i5_5 hF1 _ _ _ hw (lv_sub hl [0, 1, 2, 3, 4] rfl)
                  · have hF2 := (if_neg c14).symm.trans hF2
                    refine lv_aload_n hx hb dX8_displaces_102 rfl (lv_at hl 0 rfl) ?_
                    refine lv_iload hx hb dX8_displaces_103 (lv_at hl 5 rfl) ?_
                    refine lv_iload_n hx hb dX8_displaces_105 rfl (lv_at hl 1 rfl) ?_
                    refine lv_iload_n hx hb dX8_displaces_106 rfl (lv_at hl 2 rfl) ?_
                    obtain ⟨v15, ev15, hF2⟩ := kk_bind hF2
                    refine kk_callI 0 0 hw (kk_runV (As := [.int i6_10, .int i1, .int i2]) (rest := []) F hw hl.1 (c_X8_gather l G cI cJ ad a0 a1 a2 a3 a4 a5 a6 a7 a8 a9 a10 a11 a12 x_many x_built x_seed x_graphSeed x_bits x_bucketMany x_width x_thrown f_keys f_some_10 i6_10 i1 i2 N v15 ev15 H.size) gX8_displaces_X8_gather rfl ⟨rfl, md_X8_gather⟩ ⟨Nat.le_of_ble_eq_true rfl, Nat.le_of_ble_eq_true rfl⟩ ⟨Nat.le_of_ble_eq_true rfl, Nat.le_of_ble_eq_true rfl⟩ 0 8 rfl rfl rfl rfl (Nat.le_of_ble_eq_true rfl) dX8_displaces_107) ⟨rfl, rfl⟩ [0, 1, 2] (by decide) rfl rfl (fun H locs hw => ?_)
                    have hw : kk_wd G A s.heap [(a0, .inr (8, [.ref a1, .int x_many, .int x_built, .int x_seed, .int x_graphSeed, .int x_bits, .int x_bucketMany, .int x_width, .ref a2, .ref a3, .ref a4, .ref a5, .ref a6, .ref a7, .ref a8, .ref a9, .ref a10, .ref a11, .ref a12, .int x_thrown])), (a1, .inl (cI, 120, .inl f_keys)), (a6, .inl (cI, 120, .inl v15.2)), (a7, .inl (cI, 120, .inl f_triedShift_10)), (a8, .inl (cI, 120, .inl f_triedOwner_10))] H locs := hw
                    refine lv_iload hx hb dX8_displaces_110 (lv_at hl 4 rfl) ?_
                    refine lv_icmp_ne (tgt := 126) hx hb dX8_displaces_112 (by decide) (fun c16 => ?_) (fun c16 => ?_)
                    · have hF2 := (if_neg c16).symm.trans hF2
                      exact hJ12 v15.2 f_triedShift_10 f_triedOwner_10 i6_10 hF2 _ _ _ hw (lv_sub hl [0, 1, 2, 4, 5] rfl)
                    · have hF2 := (if_pos c16).symm.trans hF2
                      refine lv_aload_n hx hb dX8_displaces_115 rfl (lv_at hl 0 rfl) ?_
                      refine lv_iload hx hb dX8_displaces_116 (lv_at hl 5 rfl) ?_
                      refine lv_iload_n hx hb dX8_displaces_118 rfl (lv_at hl 1 rfl) ?_
                      refine lv_iload_n hx hb dX8_displaces_119 rfl (lv_at hl 2 rfl) ?_
                      obtain ⟨v17, ev17, hF2⟩ := kk_bind hF2
                      refine kk_callI 0 0 hw (kk_runV (As := [.int i6_10, .int i1, .int i2]) (rest := []) F hw hl.1 (c_X8_lays l G cI cJ ad a0 a1 a2 a3 a4 a5 a6 a7 a8 a9 a10 a11 a12 x_many x_built x_seed x_graphSeed x_bits x_bucketMany x_width x_thrown f_keys v15.2 f_triedShift_10 f_triedOwner_10 i6_10 i1 i2 N v17 ev17 H.size) gX8_displaces_X8_lays rfl ⟨rfl, md_X8_lays⟩ ⟨Nat.le_of_ble_eq_true rfl, Nat.le_of_ble_eq_true rfl⟩ ⟨Nat.le_of_ble_eq_true rfl, Nat.le_of_ble_eq_true rfl⟩ 0 8 rfl rfl rfl rfl (Nat.le_of_ble_eq_true rfl) dX8_displaces_120) ⟨rfl, rfl⟩ [0, 1, 2, 3, 4] (by decide) rfl rfl (fun H locs hw => ?_)
                      have hw : kk_wd G A s.heap [(a0, .inr (8, [.ref a1, .int x_many, .int x_built, .int x_seed, .int x_graphSeed, .int x_bits, .int x_bucketMany, .int x_width, .ref a2, .ref a3, .ref a4, .ref a5, .ref a6, .ref a7, .ref a8, .ref a9, .ref a10, .ref a11, .ref a12, .int x_thrown])), (a1, .inl (cI, 120, .inl f_keys)), (a6, .inl (cI, 120, .inl v17.2.1)), (a7, .inl (cI, 120, .inl v17.2.2.1)), (a8, .inl (cI, 120, .inl v17.2.2.2))] H locs := hw
                      refine lv_if_eq (tgt := 130) hx hb dX8_displaces_123 (by decide) (fun c18 => ?_) (fun c18 => ?_)
                      · have hF2 := (if_pos c18).symm.trans hF2
                        refine lv_iconst (v := 0) hx hb dX8_displaces_130 (by decide) ?_
                        exact hJ11 v17.2.1 v17.2.2.1 v17.2.2.2 i6_10 0 hF2 _ _ _ hw (lv_sub hl [0, 1, 2, 4, 5] rfl)
                      · have hF2 := (if_neg c18).symm.trans hF2
                        exact hJ12 v17.2.1 v17.2.2.1 v17.2.2.2 i6_10 hF2 _ _ _ hw (lv_sub hl [0, 1, 2, 4, 5] rfl)
            exact hL10 N f_some_5 f_triedShift_5 f_triedOwner_5 i4_5 0 hz10 _ _ _ hw (lv_sub hl [1, 2, 3, 4, 5, 0] rfl)
    exact hL5 N f_some_3 f_triedShift_3 f_triedOwner_3 1 i3_3 hz5 _ _ _ hw (lv_sub hl [2, 3, 4, 1, 0] rfl)
  have hJ19 : ∀ (f_some_19 : Nat → Int32) (f_triedShift_19 : Nat → Int32) (f_triedOwner_19 : Nat → Int32) (i3_19 : Int32), J_X8_displaces_34 N x_many f_keys f_some_19 f_triedShift_19 f_triedOwner_19 i1 i2 i3_19 = some x → ∀ (H : Heap) (locs : List Loc) (ls : Array Slot), kk_wd G A s.heap [(a0, .inr (8, [.ref a1, .int x_many, .int x_built, .int x_seed, .int x_graphSeed, .int x_bits, .int x_bucketMany, .int x_width, .ref a2, .ref a3, .ref a4, .ref a5, .ref a6, .ref a7, .ref a8, .ref a9, .ref a10, .ref a11, .ref a12, .int x_thrown])), (a1, .inl (cI, 120, .inl f_keys)), (a6, .inl (cI, 120, .inl f_some_19)), (a7, .inl (cI, 120, .inl f_triedShift_19)), (a8, .inl (cI, 120, .inl f_triedOwner_19))] H locs → lv_has ls 7 [(0, .ref a0), (1, .int i1), (2, .int i2), (3, .int i3_19)] → W p l e (kk_rm 6 0 0 140) s m ([.ref a0, .int i1, .int i2] : List Value).toArray below meth c H locs 0 0 Q (F0 m 34 ls []) := by
    intro f_some_19 f_triedShift_19 f_triedOwner_19 i3_19 hF0 H locs ls hw hl
    unfold J_X8_displaces_34 at hF0
    refine lv_iconst (v := 0) hx hb dX8_displaces_34 (by decide) ?_
    refine lv_istore (lv' := [(4, .int 0), (0, .ref a0), (1, .int i1), (2, .int i2), (3, .int i3_19)]) hx hb dX8_displaces_35 hl (by decide) rfl (fun ls hl => ?_)
    obtain ⟨z20, hz21, hF0⟩ := kk_bind hF0
    have hL21 : ∀ (n21 : Nat) (f_some_21 : Nat → Int32) (i3_21 : Int32) (i4_21 : Int32), kk_iter (fun (σ : ((Nat → Int32) × Int32 × Int32)) => L_X8_displaces_37 N x_many f_keys i1 i2 σ.1 σ.2.1 σ.2.2) n21 (f_some_21, i3_21, i4_21) = some z20 → ∀ (H : Heap) (locs : List Loc) (ls : Array Slot), kk_wd G A s.heap [(a0, .inr (8, [.ref a1, .int x_many, .int x_built, .int x_seed, .int x_graphSeed, .int x_bits, .int x_bucketMany, .int x_width, .ref a2, .ref a3, .ref a4, .ref a5, .ref a6, .ref a7, .ref a8, .ref a9, .ref a10, .ref a11, .ref a12, .int x_thrown])), (a1, .inl (cI, 120, .inl f_keys)), (a6, .inl (cI, 120, .inl f_some_21)), (a7, .inl (cI, 120, .inl f_triedShift_19)), (a8, .inl (cI, 120, .inl f_triedOwner_19))] H locs → lv_has ls 7 [(0, .ref a0), (1, .int i1), (2, .int i2), (3, .int i3_21), (4, .int i4_21)] → W p l e (kk_rm 6 0 0 140) s m ([.ref a0, .int i1, .int i2] : List Value).toArray below meth c H locs 0 0 Q (F0 m 37 ls []) := by
      intro n21
      induction n21 with
      | zero => intro f_some_21 i3_21 i4_21 h; exact kk_iter0 h
      | succ n21 ih21 =>
        intro f_some_21 i3_21 i4_21 hq H locs ls hw hl
        obtain ⟨y21, hF1, hI1⟩ := kk_iterS hq
        have hF1 : L_X8_displaces_37 N x_many f_keys i1 i2 f_some_21 i3_21 i4_21 = some y21 := hF1
        unfold L_X8_displaces_37 at hF1
        have hJ22 : ∀ (f_some_22 : Nat → Int32) (i4_22 : Int32) (s0_22 : Int32), J_X8_displaces_65 N f_some_22 i4_22 s0_22 = some y21 → ∀ (H : Heap) (locs : List Loc) (ls : Array Slot), kk_wd G A s.heap [(a0, .inr (8, [.ref a1, .int x_many, .int x_built, .int x_seed, .int x_graphSeed, .int x_bits, .int x_bucketMany, .int x_width, .ref a2, .ref a3, .ref a4, .ref a5, .ref a6, .ref a7, .ref a8, .ref a9, .ref a10, .ref a11, .ref a12, .int x_thrown])), (a1, .inl (cI, 120, .inl f_keys)), (a6, .inl (cI, 120, .inl f_some_22)), (a7, .inl (cI, 120, .inl f_triedShift_19)), (a8, .inl (cI, 120, .inl f_triedOwner_19))] H locs → lv_has ls 7 [(0, .ref a0), (1, .int i1), (2, .int i2), (4, .int i4_22)] → W p l e (kk_rm 6 0 0 140) s m ([.ref a0, .int i1, .int i2] : List Value).toArray below meth c H locs 0 0 Q (F0 m 65 ls [.int s0_22]) := by
          intro f_some_22 i4_22 s0_22 hF1 H locs ls hw hl
          unfold J_X8_displaces_65 at hF1
          refine lv_istore_n (lv' := [(3, .int s0_22), (0, .ref a0), (1, .int i1), (2, .int i2), (4, .int i4_22)]) hx hb dX8_displaces_65 rfl hl (by decide) rfl (fun ls hl => ?_)
          refine lv_iinc (v := (i4_22 + 1)) (lv' := [(4, .int (i4_22 + 1)), (3, .int s0_22), (0, .ref a0), (1, .int i1), (2, .int i2)]) hx hb dX8_displaces_66 hl (k := 4) rfl rfl (by decide) rfl (fun ls hl => ?_)
          refine lv_goto (tgt := 37) hx hb dX8_displaces_69 (by decide) ?_
          have hy := Option.some.inj hF1
          subst hy
          exact ih21 f_some_22 s0_22 (i4_22 + 1) hI1 _ _ _ hw (lv_sub hl [2, 3, 4, 1, 0] rfl)
        refine lv_iload hx hb dX8_displaces_37 (lv_at hl 4 rfl) ?_
        refine lv_iload_n hx hb dX8_displaces_39 rfl (lv_at hl 2 rfl) ?_
        refine lv_icmp_ge (tgt := 72) hx hb dX8_displaces_40 (by decide) (fun c23 => ?_) (fun c23 => ?_)
        · have hF1 := (if_pos c23).symm.trans hF1
          have hy := Option.some.inj hF1
          subst hy
          have hz := Option.some.inj hI1
          subst hz
          exact hJ3 f_some_21 f_triedShift_19 f_triedOwner_19 i3_21 hF0 _ _ _ hw (lv_sub hl [0, 1, 2, 3] rfl)
        · have hF1 := (if_neg c23).symm.trans hF1
          refine lv_aload_n hx hb dX8_displaces_43 rfl (lv_at hl 0 rfl) ?_
          refine lv_iload hx hb dX8_displaces_44 (lv_at hl 4 rfl) ?_
          refine lv_iload_n hx hb dX8_displaces_46 rfl (lv_at hl 1 rfl) ?_
          refine lv_iload_n hx hb dX8_displaces_47 rfl (lv_at hl 2 rfl) ?_
          obtain ⟨v24, ev24, hF1⟩ := kk_bind hF1
          refine kk_callI 0 0 hw (kk_runV (As := [.int i4_21, .int i1, .int i2]) (rest := []) F hw hl.1 (c_X8_gather l G cI cJ ad a0 a1 a2 a3 a4 a5 a6 a7 a8 a9 a10 a11 a12 x_many x_built x_seed x_graphSeed x_bits x_bucketMany x_width x_thrown f_keys f_some_21 i4_21 i1 i2 N v24 ev24 H.size) gX8_displaces_X8_gather rfl ⟨rfl, md_X8_gather⟩ ⟨Nat.le_of_ble_eq_true rfl, Nat.le_of_ble_eq_true rfl⟩ ⟨Nat.le_of_ble_eq_true rfl, Nat.le_of_ble_eq_true rfl⟩ 0 8 rfl rfl rfl rfl (Nat.le_of_ble_eq_true rfl) dX8_displaces_48) ⟨rfl, rfl⟩ [0, 1, 2] (by decide) rfl rfl (fun H locs hw => ?_)
          have hw : kk_wd G A s.heap [(a0, .inr (8, [.ref a1, .int x_many, .int x_built, .int x_seed, .int x_graphSeed, .int x_bits, .int x_bucketMany, .int x_width, .ref a2, .ref a3, .ref a4, .ref a5, .ref a6, .ref a7, .ref a8, .ref a9, .ref a10, .ref a11, .ref a12, .int x_thrown])), (a1, .inl (cI, 120, .inl f_keys)), (a6, .inl (cI, 120, .inl v24.2)), (a7, .inl (cI, 120, .inl f_triedShift_19)), (a8, .inl (cI, 120, .inl f_triedOwner_19))] H locs := hw
          refine lv_istore (lv' := [(5, .int v24.1), (0, .ref a0), (1, .int i1), (2, .int i2), (3, .int i3_21), (4, .int i4_21)]) hx hb dX8_displaces_51 hl (by decide) rfl (fun ls hl => ?_)
          refine lv_iload hx hb dX8_displaces_53 (lv_at hl 0 rfl) ?_
          refine lv_iload_n hx hb dX8_displaces_55 rfl (lv_at hl 4 rfl) ?_
          refine lv_icmp_le (tgt := 64) hx hb dX8_displaces_56 (by decide) (fun c25 => ?_) (fun c25 => ?_)
          · have hF1 := (if_pos c25).symm.trans hF1
            refine lv_iload_n hx hb dX8_displaces_64 rfl (lv_at hl 4 rfl) ?_
            exact hJ22 v24.2 i4_21 i3_21 hF1 _ _ _ hw (lv_sub hl [1, 2, 3, 5] rfl)
          · have hF1 := (if_neg c25).symm.trans hF1
            refine lv_iload hx hb dX8_displaces_59 (lv_at hl 0 rfl) ?_
            refine lv_goto (tgt := 65) hx hb dX8_displaces_61 (by decide) ?_
            exact hJ22 v24.2 i4_21 v24.1 hF1 _ _ _ hw (lv_sub hl [1, 2, 3, 5] rfl)
    exact hL21 N f_some_19 i3_19 0 hz21 _ _ _ hw (lv_sub hl [1, 2, 3, 4, 0] rfl)
  refine lv_iconst (v := 0) hx hb dX8_displaces_0 (by decide) ?_
  refine lv_istore_n (lv' := [(3, .int 0), (0, .ref a0), (1, .int i1), (2, .int i2)]) hx hb dX8_displaces_1 rfl hl (by decide) rfl (fun ls hl => ?_)
  refine lv_iconst (v := 0) hx hb dX8_displaces_2 (by decide) ?_
  refine lv_istore (lv' := [(4, .int 0), (3, .int 0), (0, .ref a0), (1, .int i1), (2, .int i2)]) hx hb dX8_displaces_3 hl (by decide) rfl (fun ls hl => ?_)
  obtain ⟨z26, hz27, hF0⟩ := kk_bind hF0
  have hL27 : ∀ (n27 : Nat) (f_triedShift_27 : Nat → Int32) (f_triedOwner_27 : Nat → Int32) (i4_27 : Int32), kk_iter (fun (σ : ((Nat → Int32) × (Nat → Int32) × Int32)) => L_X8_displaces_5 N σ.1 σ.2.1 σ.2.2) n27 (f_triedShift_27, f_triedOwner_27, i4_27) = some z26 → ∀ (H : Heap) (locs : List Loc) (ls : Array Slot), kk_wd G A s.heap [(a0, .inr (8, [.ref a1, .int x_many, .int x_built, .int x_seed, .int x_graphSeed, .int x_bits, .int x_bucketMany, .int x_width, .ref a2, .ref a3, .ref a4, .ref a5, .ref a6, .ref a7, .ref a8, .ref a9, .ref a10, .ref a11, .ref a12, .int x_thrown])), (a1, .inl (cI, 120, .inl f_keys)), (a6, .inl (cI, 120, .inl f_some)), (a7, .inl (cI, 120, .inl f_triedShift_27)), (a8, .inl (cI, 120, .inl f_triedOwner_27))] H locs → lv_has ls 7 [(0, .ref a0), (1, .int i1), (2, .int i2), (3, .int 0), (4, .int i4_27)] → W p l e (kk_rm 6 0 0 140) s m ([.ref a0, .int i1, .int i2] : List Value).toArray below meth c H locs 0 0 Q (F0 m 5 ls []) := by
    intro n27
    induction n27 with
    | zero => intro f_triedShift_27 f_triedOwner_27 i4_27 h; exact kk_iter0 h
    | succ n27 ih27 =>
      intro f_triedShift_27 f_triedOwner_27 i4_27 hq H locs ls hw hl
      obtain ⟨y27, hF1, hI1⟩ := kk_iterS hq
      have hF1 : L_X8_displaces_5 N f_triedShift_27 f_triedOwner_27 i4_27 = some y27 := hF1
      unfold L_X8_displaces_5 at hF1
      refine lv_iload hx hb dX8_displaces_5 (lv_at hl 4 rfl) ?_
      refine lv_bipush (v := 120) hx hb dX8_displaces_7 (by decide) ?_
      refine lv_icmp_ge (tgt := 34) hx hb dX8_displaces_9 (by decide) (fun c28 => ?_) (fun c28 => ?_)
      · have hF1 := (if_pos c28).symm.trans hF1
        have hy := Option.some.inj hF1
        subst hy
        have hz := Option.some.inj hI1
        subst hz
        exact hJ19 f_some f_triedShift_27 f_triedOwner_27 0 hF0 _ _ _ hw (lv_sub hl [0, 1, 2, 3] rfl)
      · have hF1 := (if_neg c28).symm.trans hF1
        refine lv_aload_n hx hb dX8_displaces_12 rfl (lv_at hl 0 rfl) ?_
        refine kk_get (T := TX8) F hw ui_X8_displaces_X8 0 rfl rfl 14 (by decide) m_X8_displaces_Cond_fieldLink_RX8_31_PerfectPewModel_triedOwner_I_ rfl dX8_displaces_13 ?_
        refine lv_iload hx hb dX8_displaces_16 (lv_at hl 4 rfl) ?_
        refine lv_iconst (v := (-1)) hx hb dX8_displaces_18 (by decide) ?_
        obtain ⟨w29, ew29, hF1⟩ := kk_bind hF1
        refine kk_iast F hw 4 rfl ew29 dX8_displaces_19 (fun H locs hw => ?_)
        have hw : kk_wd G A s.heap [(a0, .inr (8, [.ref a1, .int x_many, .int x_built, .int x_seed, .int x_graphSeed, .int x_bits, .int x_bucketMany, .int x_width, .ref a2, .ref a3, .ref a4, .ref a5, .ref a6, .ref a7, .ref a8, .ref a9, .ref a10, .ref a11, .ref a12, .int x_thrown])), (a1, .inl (cI, 120, .inl f_keys)), (a6, .inl (cI, 120, .inl f_some)), (a7, .inl (cI, 120, .inl f_triedShift_27)), (a8, .inl (cI, 120, .inl w29))] H locs := hw
        refine lv_aload_n hx hb dX8_displaces_20 rfl (lv_at hl 0 rfl) ?_
        refine kk_get (T := TX8) F hw ui_X8_displaces_X8 0 rfl rfl 13 (by decide) m_X8_displaces_Cond_fieldLink_RX8_28_PerfectPewModel_triedShift_I_ rfl dX8_displaces_21 ?_
        refine lv_iload hx hb dX8_displaces_24 (lv_at hl 4 rfl) ?_
        refine lv_iconst (v := 0) hx hb dX8_displaces_26 (by decide) ?_
        obtain ⟨w30, ew30, hF1⟩ := kk_bind hF1
        refine kk_iast F hw 3 rfl ew30 dX8_displaces_27 (fun H locs hw => ?_)
        have hw : kk_wd G A s.heap [(a0, .inr (8, [.ref a1, .int x_many, .int x_built, .int x_seed, .int x_graphSeed, .int x_bits, .int x_bucketMany, .int x_width, .ref a2, .ref a3, .ref a4, .ref a5, .ref a6, .ref a7, .ref a8, .ref a9, .ref a10, .ref a11, .ref a12, .int x_thrown])), (a1, .inl (cI, 120, .inl f_keys)), (a6, .inl (cI, 120, .inl f_some)), (a7, .inl (cI, 120, .inl w30)), (a8, .inl (cI, 120, .inl w29))] H locs := hw
        refine lv_iinc (v := (i4_27 + 1)) (lv' := [(4, .int (i4_27 + 1)), (0, .ref a0), (1, .int i1), (2, .int i2), (3, .int 0)]) hx hb dX8_displaces_28 hl (k := 4) rfl rfl (by decide) rfl (fun ls hl => ?_)
        refine lv_goto (tgt := 5) hx hb dX8_displaces_31 (by decide) ?_
        have hy := Option.some.inj hF1
        subst hy
        exact ih27 w30 w29 (i4_27 + 1) hI1 _ _ _ hw (lv_sub hl [1, 2, 3, 4, 0] rfl)
  exact hL27 N f_triedShift f_triedOwner 0 hz27 _ _ _ hw (lv_sub hl [2, 3, 4, 1, 0] rfl)
theorem ui_X8_hasNoCircle_X8 : ∀ w ∈ u_ws RX8 TX8 20, w ∈ wsX8_hasNoCircle := by decide +kernel
theorem m_X8_hasNoCircle_Cond_fieldLink_RX8_41_PerfectPewModel_roots_I_ : Cond.fieldLink RX8 41 "PerfectPewModel" "roots" "[I" ∈ wsX8_hasNoCircle := by decide +kernel
theorem m_X8_hasNoCircle_Cond_fieldLink_RX8_99_PerfectPewModel_many_I_ : Cond.fieldLink RX8 99 "PerfectPewModel" "many" "I" ∈ wsX8_hasNoCircle := by decide +kernel
theorem m_X8_hasNoCircle_Cond_fieldLink_RX8_44_PerfectPewModel_ends_I_ : Cond.fieldLink RX8 44 "PerfectPewModel" "ends" "[I" ∈ wsX8_hasNoCircle := by decide +kernel
theorem m_X8_hasNoCircle_Cond_fieldLink_RX8_7_PerfectPewModel_keys_I_ : Cond.fieldLink RX8 7 "PerfectPewModel" "keys" "[I" ∈ wsX8_hasNoCircle := by decide +kernel
set_option maxRecDepth 100000 in
set_option maxHeartbeats 4000000 in
theorem c_X8_hasNoCircle (l : Launch) (G : va_G) (cI cJ : ClassId) (ad : Nat → Nat) (a0 a1 a2 a3 a4 a5 a6 a7 a8 a9 a10 a11 a12 : Nat) (x_many : Int32) (x_built : Int32) (x_seed : Int32) (x_graphSeed : Int32) (x_bits : Int32) (x_bucketMany : Int32) (x_width : Int32) (x_thrown : Int32) (f_keys : Nat → Int32) (f_roots : Nat → Int32) (f_ends : Nat → Int32) (i1 : Int32) (N : Nat) (x : (Int32 × (Nat → Int32) × (Nat → Int32))) (hF0 : F_X8_hasNoCircle N x_many f_keys f_roots f_ends i1 = some x) : kk_I l yX8_hasNoCircle wsX8_hasNoCircle 2 0 0 42 [.ref a0, .int i1] G cI cJ ad [(a0, .inr (8, [.ref a1, .int x_many, .int x_built, .int x_seed, .int x_graphSeed, .int x_bits, .int x_bucketMany, .int x_width, .ref a2, .ref a3, .ref a4, .ref a5, .ref a6, .ref a7, .ref a8, .ref a9, .ref a10, .ref a11, .ref a12, .int x_thrown])), (a1, .inl (cI, 120, .inl f_keys)), (a11, .inl (cI, 360, .inl f_roots)), (a12, .inl (cI, 240, .inl f_ends))] x.1 [(a0, .inr (8, [.ref a1, .int x_many, .int x_built, .int x_seed, .int x_graphSeed, .int x_bits, .int x_bucketMany, .int x_width, .ref a2, .ref a3, .ref a4, .ref a5, .ref a6, .ref a7, .ref a8, .ref a9, .ref a10, .ref a11, .ref a12, .int x_thrown])), (a1, .inl (cI, 120, .inl f_keys)), (a11, .inl (cI, 360, .inl x.2.1)), (a12, .inl (cI, 240, .inl x.2.2))] := by
  refine kk_ofZ (cc := cX8_hasNoCircle) (maxL := 6) (by decide) rfl (Nat.le_of_ble_eq_true rfl) ?_
  intro p e s m below meth c A Q ls H locs hx hb hml hown hts hE hw hl hret
  have F : kk_at p m c cX8_hasNoCircle 6 s _ wsX8_hasNoCircle RX8 G cI cJ ad A := ⟨⟨hx, hb, hml, hown, hts⟩, hE⟩
  have hl : lv_has ls 6 [(0, .ref a0), (1, .int i1)] := hl
  unfold F_X8_hasNoCircle at hF0
  have hJ1 : ∀ (f_roots_1 : Nat → Int32) (f_ends_1 : Nat → Int32) (i2_1 : Int32), J_X8_hasNoCircle_177 N f_roots_1 f_ends_1 i2_1 = some x → ∀ (H : Heap) (locs : List Loc) (ls : Array Slot), kk_wd G A s.heap [(a0, .inr (8, [.ref a1, .int x_many, .int x_built, .int x_seed, .int x_graphSeed, .int x_bits, .int x_bucketMany, .int x_width, .ref a2, .ref a3, .ref a4, .ref a5, .ref a6, .ref a7, .ref a8, .ref a9, .ref a10, .ref a11, .ref a12, .int x_thrown])), (a1, .inl (cI, 120, .inl f_keys)), (a11, .inl (cI, 360, .inl f_roots_1)), (a12, .inl (cI, 240, .inl f_ends_1))] H locs → lv_has ls 6 [(2, .int i2_1)] → W p l e (kk_rm 2 0 0 42) s m ([.ref a0, .int i1] : List Value).toArray below meth c H locs 0 0 Q (F0 m 177 ls []) := by
    intro f_roots_1 f_ends_1 i2_1 hF0 H locs ls hw hl
    unfold J_X8_hasNoCircle_177 at hF0
    refine lv_iload_n hx hb dX8_hasNoCircle_177 rfl (lv_at hl 0 rfl) ?_
    obtain ⟨u2, eu2, hF0⟩ := kk_bind hF0
    have hy := Option.some.inj hF0
    subst hy
    exact hret dX8_hasNoCircle_178 (by decide) (by decide) (kk_bl_ok eu2) hw
  have hJ3 : ∀ (f_roots_3 : Nat → Int32) (f_ends_3 : Nat → Int32), J_X8_hasNoCircle_25 N x_many f_keys f_roots_3 f_ends_3 i1 = some x → ∀ (H : Heap) (locs : List Loc) (ls : Array Slot), kk_wd G A s.heap [(a0, .inr (8, [.ref a1, .int x_many, .int x_built, .int x_seed, .int x_graphSeed, .int x_bits, .int x_bucketMany, .int x_width, .ref a2, .ref a3, .ref a4, .ref a5, .ref a6, .ref a7, .ref a8, .ref a9, .ref a10, .ref a11, .ref a12, .int x_thrown])), (a1, .inl (cI, 120, .inl f_keys)), (a11, .inl (cI, 360, .inl f_roots_3)), (a12, .inl (cI, 240, .inl f_ends_3))] H locs → lv_has ls 6 [(0, .ref a0), (1, .int i1)] → W p l e (kk_rm 2 0 0 42) s m ([.ref a0, .int i1] : List Value).toArray below meth c H locs 0 0 Q (F0 m 25 ls []) := by
    intro f_roots_3 f_ends_3 hF0 H locs ls hw hl
    unfold J_X8_hasNoCircle_25 at hF0
    refine lv_iconst (v := 1) hx hb dX8_hasNoCircle_25 (by decide) ?_
    refine lv_istore_n (lv' := [(2, .int 1), (0, .ref a0), (1, .int i1)]) hx hb dX8_hasNoCircle_26 rfl hl (by decide) rfl (fun ls hl => ?_)
    refine lv_iconst (v := 0) hx hb dX8_hasNoCircle_27 (by decide) ?_
    refine lv_istore_n (lv' := [(3, .int 0), (2, .int 1), (0, .ref a0), (1, .int i1)]) hx hb dX8_hasNoCircle_28 rfl hl (by decide) rfl (fun ls hl => ?_)
    obtain ⟨z4, hz5, hF0⟩ := kk_bind hF0
    have hL5 : ∀ (n5 : Nat) (f_roots_5 : Nat → Int32) (f_ends_5 : Nat → Int32) (i2_5 : Int32) (i3_5 : Int32), kk_iter (fun (σ : ((Nat → Int32) × (Nat → Int32) × Int32 × Int32)) => L_X8_hasNoCircle_29 N x_many f_keys i1 σ.1 σ.2.1 σ.2.2.1 σ.2.2.2) n5 (f_roots_5, f_ends_5, i2_5, i3_5) = some z4 → ∀ (H : Heap) (locs : List Loc) (ls : Array Slot), kk_wd G A s.heap [(a0, .inr (8, [.ref a1, .int x_many, .int x_built, .int x_seed, .int x_graphSeed, .int x_bits, .int x_bucketMany, .int x_width, .ref a2, .ref a3, .ref a4, .ref a5, .ref a6, .ref a7, .ref a8, .ref a9, .ref a10, .ref a11, .ref a12, .int x_thrown])), (a1, .inl (cI, 120, .inl f_keys)), (a11, .inl (cI, 360, .inl f_roots_5)), (a12, .inl (cI, 240, .inl f_ends_5))] H locs → lv_has ls 6 [(0, .ref a0), (1, .int i1), (2, .int i2_5), (3, .int i3_5)] → W p l e (kk_rm 2 0 0 42) s m ([.ref a0, .int i1] : List Value).toArray below meth c H locs 0 0 Q (F0 m 29 ls []) := by
      intro n5
      induction n5 with
      | zero => intro f_roots_5 f_ends_5 i2_5 i3_5 h; exact kk_iter0 h
      | succ n5 ih5 =>
        intro f_roots_5 f_ends_5 i2_5 i3_5 hq H locs ls hw hl
        obtain ⟨y5, hF1, hI1⟩ := kk_iterS hq
        have hF1 : L_X8_hasNoCircle_29 N x_many f_keys i1 f_roots_5 f_ends_5 i2_5 i3_5 = some y5 := hF1
        unfold L_X8_hasNoCircle_29 at hF1
        have hJ6 : ∀ (f_roots_6 : Nat → Int32) (f_ends_6 : Nat → Int32) (i2_6 : Int32) (i3_6 : Int32) (s1_6 : Int32) (s2_6 : Int32), J_X8_hasNoCircle_170 N f_roots_6 f_ends_6 i2_6 i3_6 s1_6 s2_6 = some y5 → ∀ (H : Heap) (locs : List Loc) (ls : Array Slot), kk_wd G A s.heap [(a0, .inr (8, [.ref a1, .int x_many, .int x_built, .int x_seed, .int x_graphSeed, .int x_bits, .int x_bucketMany, .int x_width, .ref a2, .ref a3, .ref a4, .ref a5, .ref a6, .ref a7, .ref a8, .ref a9, .ref a10, .ref a11, .ref a12, .int x_thrown])), (a1, .inl (cI, 120, .inl f_keys)), (a11, .inl (cI, 360, .inl f_roots_6)), (a12, .inl (cI, 240, .inl f_ends_6))] H locs → lv_has ls 6 [(0, .ref a0), (1, .int i1), (2, .int i2_6), (3, .int i3_6)] → W p l e (kk_rm 2 0 0 42) s m ([.ref a0, .int i1] : List Value).toArray below meth c H locs 0 0 Q (F0 m 170 ls [.int s2_6, .int s1_6, .ref a11]) := by
          intro f_roots_6 f_ends_6 i2_6 i3_6 s1_6 s2_6 hF1 H locs ls hw hl
          unfold J_X8_hasNoCircle_170 at hF1
          obtain ⟨w7, ew7, hF1⟩ := kk_bind hF1
          refine kk_iast F hw 2 rfl ew7 dX8_hasNoCircle_170 (fun H locs hw => ?_)
          have hw : kk_wd G A s.heap [(a0, .inr (8, [.ref a1, .int x_many, .int x_built, .int x_seed, .int x_graphSeed, .int x_bits, .int x_bucketMany, .int x_width, .ref a2, .ref a3, .ref a4, .ref a5, .ref a6, .ref a7, .ref a8, .ref a9, .ref a10, .ref a11, .ref a12, .int x_thrown])), (a1, .inl (cI, 120, .inl f_keys)), (a11, .inl (cI, 360, .inl w7)), (a12, .inl (cI, 240, .inl f_ends_6))] H locs := hw
          refine lv_iinc (v := (i3_6 + 1)) (lv' := [(3, .int (i3_6 + 1)), (0, .ref a0), (1, .int i1), (2, .int i2_6)]) hx hb dX8_hasNoCircle_171 hl (k := 3) rfl rfl (by decide) rfl (fun ls hl => ?_)
          refine lv_goto (tgt := 29) hx hb dX8_hasNoCircle_174 (by decide) ?_
          have hy := Option.some.inj hF1
          subst hy
          exact ih5 w7 f_ends_6 i2_6 (i3_6 + 1) hI1 _ _ _ hw (lv_sub hl [1, 2, 3, 0] rfl)
        have hJ8 : ∀ (f_roots_8 : Nat → Int32) (f_ends_8 : Nat → Int32) (i2_8 : Int32) (i3_8 : Int32) (i4_8 : Int32) (i5_8 : Int32) (s1_8 : Int32), J_X8_hasNoCircle_156 N f_roots_8 f_ends_8 i2_8 i3_8 i4_8 i5_8 s1_8 = some y5 → ∀ (H : Heap) (locs : List Loc) (ls : Array Slot), kk_wd G A s.heap [(a0, .inr (8, [.ref a1, .int x_many, .int x_built, .int x_seed, .int x_graphSeed, .int x_bits, .int x_bucketMany, .int x_width, .ref a2, .ref a3, .ref a4, .ref a5, .ref a6, .ref a7, .ref a8, .ref a9, .ref a10, .ref a11, .ref a12, .int x_thrown])), (a1, .inl (cI, 120, .inl f_keys)), (a11, .inl (cI, 360, .inl f_roots_8)), (a12, .inl (cI, 240, .inl f_ends_8))] H locs → lv_has ls 6 [(0, .ref a0), (1, .int i1), (2, .int i2_8), (3, .int i3_8), (4, .int i4_8), (5, .int i5_8)] → W p l e (kk_rm 2 0 0 42) s m ([.ref a0, .int i1] : List Value).toArray below meth c H locs 0 0 Q (F0 m 156 ls [.int s1_8, .ref a11]) := by
          intro f_roots_8 f_ends_8 i2_8 i3_8 i4_8 i5_8 s1_8 hF1 H locs ls hw hl
          unfold J_X8_hasNoCircle_156 at hF1
          refine lv_iload hx hb dX8_hasNoCircle_156 (lv_at hl 4 rfl) ?_
          refine lv_iload hx hb dX8_hasNoCircle_158 (lv_at hl 5 rfl) ?_
          refine lv_icmp_le (tgt := 168) hx hb dX8_hasNoCircle_160 (by decide) (fun c9 => ?_) (fun c9 => ?_)
          · have hF1 := (if_pos c9).symm.trans hF1
            refine lv_iload hx hb dX8_hasNoCircle_168 (lv_at hl 4 rfl) ?_
            exact hJ6 f_roots_8 f_ends_8 i2_8 i3_8 s1_8 i4_8 hF1 _ _ _ hw (lv_sub hl [0, 1, 2, 3] rfl)
          · have hF1 := (if_neg c9).symm.trans hF1
            refine lv_iload hx hb dX8_hasNoCircle_163 (lv_at hl 5 rfl) ?_
            refine lv_goto (tgt := 170) hx hb dX8_hasNoCircle_165 (by decide) ?_
            exact hJ6 f_roots_8 f_ends_8 i2_8 i3_8 s1_8 i5_8 hF1 _ _ _ hw (lv_sub hl [0, 1, 2, 3] rfl)
        have hJ10 : ∀ (f_roots_10 : Nat → Int32) (f_ends_10 : Nat → Int32) (i3_10 : Int32) (i4_10 : Int32) (i5_10 : Int32) (s0_10 : Int32), J_X8_hasNoCircle_137 N f_roots_10 f_ends_10 i3_10 i4_10 i5_10 s0_10 = some y5 → ∀ (H : Heap) (locs : List Loc) (ls : Array Slot), kk_wd G A s.heap [(a0, .inr (8, [.ref a1, .int x_many, .int x_built, .int x_seed, .int x_graphSeed, .int x_bits, .int x_bucketMany, .int x_width, .ref a2, .ref a3, .ref a4, .ref a5, .ref a6, .ref a7, .ref a8, .ref a9, .ref a10, .ref a11, .ref a12, .int x_thrown])), (a1, .inl (cI, 120, .inl f_keys)), (a11, .inl (cI, 360, .inl f_roots_10)), (a12, .inl (cI, 240, .inl f_ends_10))] H locs → lv_has ls 6 [(0, .ref a0), (1, .int i1), (3, .int i3_10), (4, .int i4_10), (5, .int i5_10)] → W p l e (kk_rm 2 0 0 42) s m ([.ref a0, .int i1] : List Value).toArray below meth c H locs 0 0 Q (F0 m 137 ls [.int s0_10]) := by
          intro f_roots_10 f_ends_10 i3_10 i4_10 i5_10 s0_10 hF1 H locs ls hw hl
          unfold J_X8_hasNoCircle_137 at hF1
          refine lv_istore_n (lv' := [(2, .int s0_10), (0, .ref a0), (1, .int i1), (3, .int i3_10), (4, .int i4_10), (5, .int i5_10)]) hx hb dX8_hasNoCircle_137 rfl hl (by decide) rfl (fun ls hl => ?_)
          refine lv_aload_n hx hb dX8_hasNoCircle_138 rfl (lv_at hl 1 rfl) ?_
          refine kk_get (T := TX8) F hw ui_X8_hasNoCircle_X8 0 rfl rfl 17 (by decide) m_X8_hasNoCircle_Cond_fieldLink_RX8_41_PerfectPewModel_roots_I_ rfl dX8_hasNoCircle_139 ?_
          refine lv_iload hx hb dX8_hasNoCircle_142 (lv_at hl 4 rfl) ?_
          refine lv_iload hx hb dX8_hasNoCircle_144 (lv_at hl 5 rfl) ?_
          refine lv_icmp_le (tgt := 154) hx hb dX8_hasNoCircle_146 (by decide) (fun c11 => ?_) (fun c11 => ?_)
          · have hF1 := (if_pos c11).symm.trans hF1
            refine lv_iload hx hb dX8_hasNoCircle_154 (lv_at hl 5 rfl) ?_
            exact hJ8 f_roots_10 f_ends_10 s0_10 i3_10 i4_10 i5_10 i5_10 hF1 _ _ _ hw (lv_sub hl [1, 2, 0, 3, 4, 5] rfl)
          · have hF1 := (if_neg c11).symm.trans hF1
            refine lv_iload hx hb dX8_hasNoCircle_149 (lv_at hl 4 rfl) ?_
            refine lv_goto (tgt := 156) hx hb dX8_hasNoCircle_151 (by decide) ?_
            exact hJ8 f_roots_10 f_ends_10 s0_10 i3_10 i4_10 i5_10 i4_10 hF1 _ _ _ hw (lv_sub hl [1, 2, 0, 3, 4, 5] rfl)
        refine lv_iload_n hx hb dX8_hasNoCircle_29 rfl (lv_at hl 3 rfl) ?_
        refine lv_aload_n hx hb dX8_hasNoCircle_30 rfl (lv_at hl 0 rfl) ?_
        refine kk_get (T := TX8) F hw ui_X8_hasNoCircle_X8 0 rfl rfl 1 (by decide) m_X8_hasNoCircle_Cond_fieldLink_RX8_99_PerfectPewModel_many_I_ rfl dX8_hasNoCircle_31 ?_
        refine lv_icmp_ge (tgt := 177) hx hb dX8_hasNoCircle_34 (by decide) (fun c12 => ?_) (fun c12 => ?_)
        · have hF1 := (if_pos c12).symm.trans hF1
          have hy := Option.some.inj hF1
          subst hy
          have hz := Option.some.inj hI1
          subst hz
          exact hJ1 f_roots_5 f_ends_5 i2_5 hF0 _ _ _ hw (lv_sub hl [2] rfl)
        · have hF1 := (if_neg c12).symm.trans hF1
          refine lv_iload_n hx hb dX8_hasNoCircle_37 rfl (lv_at hl 2 rfl) ?_
          refine lv_if_eq (tgt := 177) hx hb dX8_hasNoCircle_38 (by decide) (fun c13 => ?_) (fun c13 => ?_)
          · have hF1 := (if_pos c13).symm.trans hF1
            have hy := Option.some.inj hF1
            subst hy
            have hz := Option.some.inj hI1
            subst hz
            exact hJ1 f_roots_5 f_ends_5 i2_5 hF0 _ _ _ hw (lv_sub hl [2] rfl)
          · have hF1 := (if_neg c13).symm.trans hF1
            refine lv_aload_n hx hb dX8_hasNoCircle_41 rfl (lv_at hl 0 rfl) ?_
            refine kk_get (T := TX8) F hw ui_X8_hasNoCircle_X8 0 rfl rfl 18 (by decide) m_X8_hasNoCircle_Cond_fieldLink_RX8_44_PerfectPewModel_ends_I_ rfl dX8_hasNoCircle_42 ?_
            refine lv_iconst (v := 2) hx hb dX8_hasNoCircle_45 (by decide) ?_
            refine lv_iload_n hx hb dX8_hasNoCircle_46 rfl (lv_at hl 3 rfl) ?_
            refine lv_imul hx hb dX8_hasNoCircle_47 ?_
            refine lv_iconst (v := 4) hx hb dX8_hasNoCircle_48 (by decide) ?_
            refine lv_aload_n hx hb dX8_hasNoCircle_49 rfl (lv_at hl 0 rfl) ?_
            refine kk_get (T := TX8) F hw ui_X8_hasNoCircle_X8 0 rfl rfl 0 (by decide) m_X8_hasNoCircle_Cond_fieldLink_RX8_7_PerfectPewModel_keys_I_ rfl dX8_hasNoCircle_50 ?_
            refine lv_iload_n hx hb dX8_hasNoCircle_53 rfl (lv_at hl 3 rfl) ?_
            obtain ⟨v14, ev14, hF1⟩ := kk_bind hF1
            refine kk_iald F hw 1 rfl ev14 dX8_hasNoCircle_54 ?_
            refine lv_iload_n hx hb dX8_hasNoCircle_55 rfl (lv_at hl 1 rfl) ?_
            obtain ⟨v15, ev15, hF1⟩ := kk_bind hF1
            refine kk_callI 0 0 hw (kk_runS (As := [.int 4, .int v14, .int i1]) (rest := [.int (2 * i3_5), .ref a12]) F hw hl.1 (c_X8_hash l G cI cJ ad 4 v14 i1 N v15 ev15 H.size) gX8_hasNoCircle_X8_hash rfl md_X8_hash ⟨Nat.le_of_ble_eq_true rfl, Nat.le_of_ble_eq_true rfl⟩ ⟨Nat.le_of_ble_eq_true rfl, Nat.le_of_ble_eq_true rfl⟩ rfl (Nat.le_of_ble_eq_true rfl) dX8_hasNoCircle_56) ⟨rfl, rfl⟩ [] (by decide) rfl rfl (fun H locs hw => ?_)
            refine lv_iconst (v := 3) hx hb dX8_hasNoCircle_59 (by decide) ?_
            refine lv_aload_n hx hb dX8_hasNoCircle_60 rfl (lv_at hl 0 rfl) ?_
            refine kk_get (T := TX8) F hw ui_X8_hasNoCircle_X8 0 rfl rfl 1 (by decide) m_X8_hasNoCircle_Cond_fieldLink_RX8_99_PerfectPewModel_many_I_ rfl dX8_hasNoCircle_61 ?_
            refine lv_imul hx hb dX8_hasNoCircle_64 ?_
            obtain ⟨u16, eu16, hF1⟩ := kk_bind hF1
            refine lv_irem hx hb dX8_hasNoCircle_65 (kk_nz_ok eu16) ?_
            obtain ⟨w17, ew17, hF1⟩ := kk_bind hF1
            refine kk_iast F hw 3 rfl ew17 dX8_hasNoCircle_66 (fun H locs hw => ?_)
            have hw : kk_wd G A s.heap [(a0, .inr (8, [.ref a1, .int x_many, .int x_built, .int x_seed, .int x_graphSeed, .int x_bits, .int x_bucketMany, .int x_width, .ref a2, .ref a3, .ref a4, .ref a5, .ref a6, .ref a7, .ref a8, .ref a9, .ref a10, .ref a11, .ref a12, .int x_thrown])), (a1, .inl (cI, 120, .inl f_keys)), (a11, .inl (cI, 360, .inl f_roots_5)), (a12, .inl (cI, 240, .inl w17))] H locs := hw
            refine lv_aload_n hx hb dX8_hasNoCircle_67 rfl (lv_at hl 0 rfl) ?_
            refine kk_get (T := TX8) F hw ui_X8_hasNoCircle_X8 0 rfl rfl 18 (by decide) m_X8_hasNoCircle_Cond_fieldLink_RX8_44_PerfectPewModel_ends_I_ rfl dX8_hasNoCircle_68 ?_
            refine lv_iconst (v := 2) hx hb dX8_hasNoCircle_71 (by decide) ?_
            refine lv_iload_n hx hb dX8_hasNoCircle_72 rfl (lv_at hl 3 rfl) ?_
            refine lv_imul hx hb dX8_hasNoCircle_73 ?_
            refine lv_iconst (v := 1) hx hb dX8_hasNoCircle_74 (by decide) ?_
            refine lv_iadd hx hb dX8_hasNoCircle_75 ?_
            refine lv_iconst (v := 5) hx hb dX8_hasNoCircle_76 (by decide) ?_
            refine lv_aload_n hx hb dX8_hasNoCircle_77 rfl (lv_at hl 0 rfl) ?_
            refine kk_get (T := TX8) F hw ui_X8_hasNoCircle_X8 0 rfl rfl 0 (by decide) m_X8_hasNoCircle_Cond_fieldLink_RX8_7_PerfectPewModel_keys_I_ rfl dX8_hasNoCircle_78 ?_
            refine lv_iload_n hx hb dX8_hasNoCircle_81 rfl (lv_at hl 3 rfl) ?_
            obtain ⟨v18, ev18, hF1⟩ := kk_bind hF1
            refine kk_iald F hw 1 rfl ev18 dX8_hasNoCircle_82 ?_
            refine lv_iload_n hx hb dX8_hasNoCircle_83 rfl (lv_at hl 1 rfl) ?_
            obtain ⟨v19, ev19, hF1⟩ := kk_bind hF1
            refine kk_callI 0 0 hw (kk_runS (As := [.int 5, .int v18, .int i1]) (rest := [.int ((2 * i3_5) + 1), .ref a12]) F hw hl.1 (c_X8_hash l G cI cJ ad 5 v18 i1 N v19 ev19 H.size) gX8_hasNoCircle_X8_hash rfl md_X8_hash ⟨Nat.le_of_ble_eq_true rfl, Nat.le_of_ble_eq_true rfl⟩ ⟨Nat.le_of_ble_eq_true rfl, Nat.le_of_ble_eq_true rfl⟩ rfl (Nat.le_of_ble_eq_true rfl) dX8_hasNoCircle_84) ⟨rfl, rfl⟩ [] (by decide) rfl rfl (fun H locs hw => ?_)
            refine lv_iconst (v := 3) hx hb dX8_hasNoCircle_87 (by decide) ?_
            refine lv_aload_n hx hb dX8_hasNoCircle_88 rfl (lv_at hl 0 rfl) ?_
            refine kk_get (T := TX8) F hw ui_X8_hasNoCircle_X8 0 rfl rfl 1 (by decide) m_X8_hasNoCircle_Cond_fieldLink_RX8_99_PerfectPewModel_many_I_ rfl dX8_hasNoCircle_89 ?_
            refine lv_imul hx hb dX8_hasNoCircle_92 ?_
            obtain ⟨u20, eu20, hF1⟩ := kk_bind hF1
            refine lv_irem hx hb dX8_hasNoCircle_93 (kk_nz_ok eu20) ?_
            obtain ⟨w21, ew21, hF1⟩ := kk_bind hF1
            refine kk_iast F hw 3 rfl ew21 dX8_hasNoCircle_94 (fun H locs hw => ?_)
            have hw : kk_wd G A s.heap [(a0, .inr (8, [.ref a1, .int x_many, .int x_built, .int x_seed, .int x_graphSeed, .int x_bits, .int x_bucketMany, .int x_width, .ref a2, .ref a3, .ref a4, .ref a5, .ref a6, .ref a7, .ref a8, .ref a9, .ref a10, .ref a11, .ref a12, .int x_thrown])), (a1, .inl (cI, 120, .inl f_keys)), (a11, .inl (cI, 360, .inl f_roots_5)), (a12, .inl (cI, 240, .inl w21))] H locs := hw
            refine lv_aload_n hx hb dX8_hasNoCircle_95 rfl (lv_at hl 0 rfl) ?_
            refine lv_aload_n hx hb dX8_hasNoCircle_96 rfl (lv_at hl 0 rfl) ?_
            refine kk_get (T := TX8) F hw ui_X8_hasNoCircle_X8 0 rfl rfl 18 (by decide) m_X8_hasNoCircle_Cond_fieldLink_RX8_44_PerfectPewModel_ends_I_ rfl dX8_hasNoCircle_97 ?_
            refine lv_iconst (v := 2) hx hb dX8_hasNoCircle_100 (by decide) ?_
            refine lv_iload_n hx hb dX8_hasNoCircle_101 rfl (lv_at hl 3 rfl) ?_
            refine lv_imul hx hb dX8_hasNoCircle_102 ?_
            obtain ⟨v22, ev22, hF1⟩ := kk_bind hF1
            refine kk_iald F hw 3 rfl ev22 dX8_hasNoCircle_103 ?_
            obtain ⟨v23, ev23, hF1⟩ := kk_bind hF1
            refine kk_callI 0 0 hw (kk_runV (As := [.int v22]) (rest := []) F hw hl.1 (c_X8_root l G cI cJ ad a0 a1 a2 a3 a4 a5 a6 a7 a8 a9 a10 a11 a12 x_many x_built x_seed x_graphSeed x_bits x_bucketMany x_width x_thrown f_roots_5 v22 N v23 ev23 H.size) gX8_hasNoCircle_X8_root rfl ⟨rfl, md_X8_root⟩ ⟨Nat.le_of_ble_eq_true rfl, Nat.le_of_ble_eq_true rfl⟩ ⟨Nat.le_of_ble_eq_true rfl, Nat.le_of_ble_eq_true rfl⟩ 0 8 rfl rfl rfl rfl (Nat.le_of_ble_eq_true rfl) dX8_hasNoCircle_104) ⟨rfl, rfl⟩ [0, 2] (by decide) rfl rfl (fun H locs hw => ?_)
            have hw : kk_wd G A s.heap [(a0, .inr (8, [.ref a1, .int x_many, .int x_built, .int x_seed, .int x_graphSeed, .int x_bits, .int x_bucketMany, .int x_width, .ref a2, .ref a3, .ref a4, .ref a5, .ref a6, .ref a7, .ref a8, .ref a9, .ref a10, .ref a11, .ref a12, .int x_thrown])), (a1, .inl (cI, 120, .inl f_keys)), (a11, .inl (cI, 360, .inl f_roots_5)), (a12, .inl (cI, 240, .inl w21))] H locs := hw
            refine lv_istore (lv' := [(4, .int v23), (0, .ref a0), (1, .int i1), (2, .int i2_5), (3, .int i3_5)]) hx hb dX8_hasNoCircle_107 hl (by decide) rfl (fun ls hl => ?_)
            refine lv_aload_n hx hb dX8_hasNoCircle_109 rfl (lv_at hl 1 rfl) ?_
            refine lv_aload_n hx hb dX8_hasNoCircle_110 rfl (lv_at hl 1 rfl) ?_
            refine kk_get (T := TX8) F hw ui_X8_hasNoCircle_X8 0 rfl rfl 18 (by decide) m_X8_hasNoCircle_Cond_fieldLink_RX8_44_PerfectPewModel_ends_I_ rfl dX8_hasNoCircle_111 ?_
            refine lv_iconst (v := 2) hx hb dX8_hasNoCircle_114 (by decide) ?_
            refine lv_iload_n hx hb dX8_hasNoCircle_115 rfl (lv_at hl 4 rfl) ?_
            refine lv_imul hx hb dX8_hasNoCircle_116 ?_
            refine lv_iconst (v := 1) hx hb dX8_hasNoCircle_117 (by decide) ?_
            refine lv_iadd hx hb dX8_hasNoCircle_118 ?_
            obtain ⟨v24, ev24, hF1⟩ := kk_bind hF1
            refine kk_iald F hw 3 rfl ev24 dX8_hasNoCircle_119 ?_
            obtain ⟨v25, ev25, hF1⟩ := kk_bind hF1
            refine kk_callI 0 0 hw (kk_runV (As := [.int v24]) (rest := []) F hw hl.1 (c_X8_root l G cI cJ ad a0 a1 a2 a3 a4 a5 a6 a7 a8 a9 a10 a11 a12 x_many x_built x_seed x_graphSeed x_bits x_bucketMany x_width x_thrown f_roots_5 v24 N v25 ev25 H.size) gX8_hasNoCircle_X8_root rfl ⟨rfl, md_X8_root⟩ ⟨Nat.le_of_ble_eq_true rfl, Nat.le_of_ble_eq_true rfl⟩ ⟨Nat.le_of_ble_eq_true rfl, Nat.le_of_ble_eq_true rfl⟩ 0 8 rfl rfl rfl rfl (Nat.le_of_ble_eq_true rfl) dX8_hasNoCircle_120) ⟨rfl, rfl⟩ [0, 2] (by decide) rfl rfl (fun H locs hw => ?_)
            have hw : kk_wd G A s.heap [(a0, .inr (8, [.ref a1, .int x_many, .int x_built, .int x_seed, .int x_graphSeed, .int x_bits, .int x_bucketMany, .int x_width, .ref a2, .ref a3, .ref a4, .ref a5, .ref a6, .ref a7, .ref a8, .ref a9, .ref a10, .ref a11, .ref a12, .int x_thrown])), (a1, .inl (cI, 120, .inl f_keys)), (a11, .inl (cI, 360, .inl f_roots_5)), (a12, .inl (cI, 240, .inl w21))] H locs := hw
            refine lv_istore (lv' := [(5, .int v25), (4, .int v23), (0, .ref a0), (1, .int i1), (2, .int i2_5), (3, .int i3_5)]) hx hb dX8_hasNoCircle_123 hl (by decide) rfl (fun ls hl => ?_)
            refine lv_iload hx hb dX8_hasNoCircle_125 (lv_at hl 1 rfl) ?_
            refine lv_iload hx hb dX8_hasNoCircle_127 (lv_at hl 0 rfl) ?_
            refine lv_icmp_eq (tgt := 136) hx hb dX8_hasNoCircle_129 (by decide) (fun c26 => ?_) (fun c26 => ?_)
            · have hF1 := (if_pos c26).symm.trans hF1
              refine lv_iconst (v := 0) hx hb dX8_hasNoCircle_136 (by decide) ?_
              exact hJ10 f_roots_5 w21 i3_5 v23 v25 0 hF1 _ _ _ hw (lv_sub hl [2, 3, 5, 1, 0] rfl)
            · have hF1 := (if_neg c26).symm.trans hF1
              refine lv_iconst (v := 1) hx hb dX8_hasNoCircle_132 (by decide) ?_
              refine lv_goto (tgt := 137) hx hb dX8_hasNoCircle_133 (by decide) ?_
              exact hJ10 f_roots_5 w21 i3_5 v23 v25 1 hF1 _ _ _ hw (lv_sub hl [2, 3, 5, 1, 0] rfl)
    exact hL5 N f_roots_3 f_ends_3 1 0 hz5 _ _ _ hw (lv_sub hl [2, 3, 1, 0] rfl)
  refine lv_iconst (v := 0) hx hb dX8_hasNoCircle_0 (by decide) ?_
  refine lv_istore_n (lv' := [(2, .int 0), (0, .ref a0), (1, .int i1)]) hx hb dX8_hasNoCircle_1 rfl hl (by decide) rfl (fun ls hl => ?_)
  obtain ⟨z27, hz28, hF0⟩ := kk_bind hF0
  have hL28 : ∀ (n28 : Nat) (f_roots_28 : Nat → Int32) (i2_28 : Int32), kk_iter (fun (σ : ((Nat → Int32) × Int32)) => L_X8_hasNoCircle_2 N x_many σ.1 σ.2) n28 (f_roots_28, i2_28) = some z27 → ∀ (H : Heap) (locs : List Loc) (ls : Array Slot), kk_wd G A s.heap [(a0, .inr (8, [.ref a1, .int x_many, .int x_built, .int x_seed, .int x_graphSeed, .int x_bits, .int x_bucketMany, .int x_width, .ref a2, .ref a3, .ref a4, .ref a5, .ref a6, .ref a7, .ref a8, .ref a9, .ref a10, .ref a11, .ref a12, .int x_thrown])), (a1, .inl (cI, 120, .inl f_keys)), (a11, .inl (cI, 360, .inl f_roots_28)), (a12, .inl (cI, 240, .inl f_ends))] H locs → lv_has ls 6 [(0, .ref a0), (1, .int i1), (2, .int i2_28)] → W p l e (kk_rm 2 0 0 42) s m ([.ref a0, .int i1] : List Value).toArray below meth c H locs 0 0 Q (F0 m 2 ls []) := by
    intro n28
    induction n28 with
    | zero => intro f_roots_28 i2_28 h; exact kk_iter0 h
    | succ n28 ih28 =>
      intro f_roots_28 i2_28 hq H locs ls hw hl
      obtain ⟨y28, hF1, hI1⟩ := kk_iterS hq
      have hF1 : L_X8_hasNoCircle_2 N x_many f_roots_28 i2_28 = some y28 := hF1
      unfold L_X8_hasNoCircle_2 at hF1
      refine lv_iload_n hx hb dX8_hasNoCircle_2 rfl (lv_at hl 2 rfl) ?_
      refine lv_iconst (v := 3) hx hb dX8_hasNoCircle_3 (by decide) ?_
      refine lv_aload_n hx hb dX8_hasNoCircle_4 rfl (lv_at hl 0 rfl) ?_
      refine kk_get (T := TX8) F hw ui_X8_hasNoCircle_X8 0 rfl rfl 1 (by decide) m_X8_hasNoCircle_Cond_fieldLink_RX8_99_PerfectPewModel_many_I_ rfl dX8_hasNoCircle_5 ?_
      refine lv_imul hx hb dX8_hasNoCircle_8 ?_
      refine lv_icmp_ge (tgt := 25) hx hb dX8_hasNoCircle_9 (by decide) (fun c29 => ?_) (fun c29 => ?_)
      · have hF1 := (if_pos c29).symm.trans hF1
        have hy := Option.some.inj hF1
        subst hy
        have hz := Option.some.inj hI1
        subst hz
        exact hJ3 f_roots_28 f_ends hF0 _ _ _ hw (lv_sub hl [0, 1] rfl)
      · have hF1 := (if_neg c29).symm.trans hF1
        refine lv_aload_n hx hb dX8_hasNoCircle_12 rfl (lv_at hl 0 rfl) ?_
        refine kk_get (T := TX8) F hw ui_X8_hasNoCircle_X8 0 rfl rfl 17 (by decide) m_X8_hasNoCircle_Cond_fieldLink_RX8_41_PerfectPewModel_roots_I_ rfl dX8_hasNoCircle_13 ?_
        refine lv_iload_n hx hb dX8_hasNoCircle_16 rfl (lv_at hl 2 rfl) ?_
        refine lv_iload_n hx hb dX8_hasNoCircle_17 rfl (lv_at hl 2 rfl) ?_
        obtain ⟨w30, ew30, hF1⟩ := kk_bind hF1
        refine kk_iast F hw 2 rfl ew30 dX8_hasNoCircle_18 (fun H locs hw => ?_)
        have hw : kk_wd G A s.heap [(a0, .inr (8, [.ref a1, .int x_many, .int x_built, .int x_seed, .int x_graphSeed, .int x_bits, .int x_bucketMany, .int x_width, .ref a2, .ref a3, .ref a4, .ref a5, .ref a6, .ref a7, .ref a8, .ref a9, .ref a10, .ref a11, .ref a12, .int x_thrown])), (a1, .inl (cI, 120, .inl f_keys)), (a11, .inl (cI, 360, .inl w30)), (a12, .inl (cI, 240, .inl f_ends))] H locs := hw
        refine lv_iinc (v := (i2_28 + 1)) (lv' := [(2, .int (i2_28 + 1)), (0, .ref a0), (1, .int i1)]) hx hb dX8_hasNoCircle_19 hl (k := 2) rfl rfl (by decide) rfl (fun ls hl => ?_)
        refine lv_goto (tgt := 2) hx hb dX8_hasNoCircle_22 (by decide) ?_
        have hy := Option.some.inj hF1
        subst hy
        exact ih28 w30 (i2_28 + 1) hI1 _ _ _ hw (lv_sub hl [1, 2, 0] rfl)
  exact hL28 N f_roots 0 hz28 _ _ _ hw (lv_sub hl [1, 2, 0] rfl)
theorem ui_X8_layValues_X8 : ∀ w ∈ u_ws RX8 TX8 20, w ∈ wsX8_layValues := by decide +kernel
theorem m_X8_layValues_Cond_fieldLink_RX8_38_PerfectPewModel_values_I_ : Cond.fieldLink RX8 38 "PerfectPewModel" "values" "[I" ∈ wsX8_layValues := by decide +kernel
theorem m_X8_layValues_Cond_fieldLink_RX8_99_PerfectPewModel_many_I_ : Cond.fieldLink RX8 99 "PerfectPewModel" "many" "I" ∈ wsX8_layValues := by decide +kernel
theorem m_X8_layValues_Cond_fieldLink_RX8_44_PerfectPewModel_ends_I_ : Cond.fieldLink RX8 44 "PerfectPewModel" "ends" "[I" ∈ wsX8_layValues := by decide +kernel
set_option maxRecDepth 100000 in
set_option maxHeartbeats 4000000 in
theorem c_X8_layValues (l : Launch) (G : va_G) (cI cJ : ClassId) (ad : Nat → Nat) (a0 a1 a2 a3 a4 a5 a6 a7 a8 a9 a10 a11 a12 : Nat) (x_many : Int32) (x_built : Int32) (x_seed : Int32) (x_graphSeed : Int32) (x_bits : Int32) (x_bucketMany : Int32) (x_width : Int32) (x_thrown : Int32) (f_values : Nat → Int32) (f_roots : Nat → Int32) (f_ends : Nat → Int32) (N : Nat) (x : (Nat → Int32)) (hF0 : F_X8_layValues N x_many f_values f_roots f_ends = some x) : kk_V l yX8_layValues wsX8_layValues 1 0 0 22 [.ref a0] G cI cJ ad [(a0, .inr (8, [.ref a1, .int x_many, .int x_built, .int x_seed, .int x_graphSeed, .int x_bits, .int x_bucketMany, .int x_width, .ref a2, .ref a3, .ref a4, .ref a5, .ref a6, .ref a7, .ref a8, .ref a9, .ref a10, .ref a11, .ref a12, .int x_thrown])), (a10, .inl (cI, 360, .inl f_values)), (a11, .inl (cI, 360, .inl f_roots)), (a12, .inl (cI, 240, .inl f_ends))] [(a0, .inr (8, [.ref a1, .int x_many, .int x_built, .int x_seed, .int x_graphSeed, .int x_bits, .int x_bucketMany, .int x_width, .ref a2, .ref a3, .ref a4, .ref a5, .ref a6, .ref a7, .ref a8, .ref a9, .ref a10, .ref a11, .ref a12, .int x_thrown])), (a10, .inl (cI, 360, .inl x)), (a11, .inl (cI, 360, .inl f_roots)), (a12, .inl (cI, 240, .inl f_ends))] := by
  refine kk_ofV (cc := cX8_layValues) (maxL := 5) (by decide) rfl (Nat.le_of_ble_eq_true rfl) ?_
  intro p e s m below meth c A Q ls H locs hx hb hml hown hts hE hw hl hret
  have F : kk_at p m c cX8_layValues 5 s _ wsX8_layValues RX8 G cI cJ ad A := ⟨⟨hx, hb, hml, hown, hts⟩, hE⟩
  have hl : lv_has ls 5 [(0, .ref a0)] := hl
  unfold F_X8_layValues at hF0
  have hJ1 : ∀ (f_values_1 : Nat → Int32), J_X8_layValues_185 N f_values_1 = some x → ∀ (H : Heap) (locs : List Loc) (ls : Array Slot), kk_wd G A s.heap [(a0, .inr (8, [.ref a1, .int x_many, .int x_built, .int x_seed, .int x_graphSeed, .int x_bits, .int x_bucketMany, .int x_width, .ref a2, .ref a3, .ref a4, .ref a5, .ref a6, .ref a7, .ref a8, .ref a9, .ref a10, .ref a11, .ref a12, .int x_thrown])), (a10, .inl (cI, 360, .inl f_values_1)), (a11, .inl (cI, 360, .inl f_roots)), (a12, .inl (cI, 240, .inl f_ends))] H locs → lv_has ls 5 [] → W p l e (kk_rm 1 0 0 22) s m ([.ref a0] : List Value).toArray below meth c H locs 0 0 Q (F0 m 185 ls []) := by
    intro f_values_1 hF0 H locs ls hw hl
    unfold J_X8_layValues_185 at hF0
    have hy := Option.some.inj hF0
    subst hy
    exact hret dX8_layValues_185 (by decide) (by decide) hw
  have hJ2 : ∀ (f_values_2 : Nat → Int32), J_X8_layValues_38 N x_many f_values_2 f_ends = some x → ∀ (H : Heap) (locs : List Loc) (ls : Array Slot), kk_wd G A s.heap [(a0, .inr (8, [.ref a1, .int x_many, .int x_built, .int x_seed, .int x_graphSeed, .int x_bits, .int x_bucketMany, .int x_width, .ref a2, .ref a3, .ref a4, .ref a5, .ref a6, .ref a7, .ref a8, .ref a9, .ref a10, .ref a11, .ref a12, .int x_thrown])), (a10, .inl (cI, 360, .inl f_values_2)), (a11, .inl (cI, 360, .inl f_roots)), (a12, .inl (cI, 240, .inl f_ends))] H locs → lv_has ls 5 [(0, .ref a0)] → W p l e (kk_rm 1 0 0 22) s m ([.ref a0] : List Value).toArray below meth c H locs 0 0 Q (F0 m 38 ls []) := by
    intro f_values_2 hF0 H locs ls hw hl
    unfold J_X8_layValues_38 at hF0
    refine lv_iconst (v := 1) hx hb dX8_layValues_38 (by decide) ?_
    refine lv_istore_n (lv' := [(1, .int 1), (0, .ref a0)]) hx hb dX8_layValues_39 rfl hl (by decide) rfl (fun ls hl => ?_)
    obtain ⟨z3, hz4, hF0⟩ := kk_bind hF0
    have hL4 : ∀ (n4 : Nat) (f_values_4 : Nat → Int32) (i1_4 : Int32), kk_iter (fun (σ : ((Nat → Int32) × Int32)) => L_X8_layValues_40 N x_many f_ends σ.1 σ.2) n4 (f_values_4, i1_4) = some z3 → ∀ (H : Heap) (locs : List Loc) (ls : Array Slot), kk_wd G A s.heap [(a0, .inr (8, [.ref a1, .int x_many, .int x_built, .int x_seed, .int x_graphSeed, .int x_bits, .int x_bucketMany, .int x_width, .ref a2, .ref a3, .ref a4, .ref a5, .ref a6, .ref a7, .ref a8, .ref a9, .ref a10, .ref a11, .ref a12, .int x_thrown])), (a10, .inl (cI, 360, .inl f_values_4)), (a11, .inl (cI, 360, .inl f_roots)), (a12, .inl (cI, 240, .inl f_ends))] H locs → lv_has ls 5 [(0, .ref a0), (1, .int i1_4)] → W p l e (kk_rm 1 0 0 22) s m ([.ref a0] : List Value).toArray below meth c H locs 0 0 Q (F0 m 40 ls []) := by
      intro n4
      induction n4 with
      | zero => intro f_values_4 i1_4 h; exact kk_iter0 h
      | succ n4 ih4 =>
        intro f_values_4 i1_4 hq H locs ls hw hl
        obtain ⟨y4, hF1, hI1⟩ := kk_iterS hq
        have hF1 : L_X8_layValues_40 N x_many f_ends f_values_4 i1_4 = some y4 := hF1
        unfold L_X8_layValues_40 at hF1
        have hJ5 : ∀ (f_values_5 : Nat → Int32) (i1_5 : Int32), J_X8_layValues_182 N f_values_5 i1_5 = some y4 → ∀ (H : Heap) (locs : List Loc) (ls : Array Slot), kk_wd G A s.heap [(a0, .inr (8, [.ref a1, .int x_many, .int x_built, .int x_seed, .int x_graphSeed, .int x_bits, .int x_bucketMany, .int x_width, .ref a2, .ref a3, .ref a4, .ref a5, .ref a6, .ref a7, .ref a8, .ref a9, .ref a10, .ref a11, .ref a12, .int x_thrown])), (a10, .inl (cI, 360, .inl f_values_5)), (a11, .inl (cI, 360, .inl f_roots)), (a12, .inl (cI, 240, .inl f_ends))] H locs → lv_has ls 5 [(0, .ref a0), (1, .int i1_5)] → W p l e (kk_rm 1 0 0 22) s m ([.ref a0] : List Value).toArray below meth c H locs 0 0 Q (F0 m 182 ls []) := by
          intro f_values_5 i1_5 hF1 H locs ls hw hl
          unfold J_X8_layValues_182 at hF1
          refine lv_goto (tgt := 40) hx hb dX8_layValues_182 (by decide) ?_
          have hy := Option.some.inj hF1
          subst hy
          exact ih4 f_values_5 i1_5 hI1 _ _ _ hw (lv_sub hl [0, 1] rfl)
        refine lv_iload_n hx hb dX8_layValues_40 rfl (lv_at hl 1 rfl) ?_
        refine lv_if_eq (tgt := 185) hx hb dX8_layValues_41 (by decide) (fun c6 => ?_) (fun c6 => ?_)
        · have hF1 := (if_pos c6).symm.trans hF1
          have hy := Option.some.inj hF1
          subst hy
          have hz := Option.some.inj hI1
          subst hz
          exact hJ1 f_values_4 hF0 _ _ _ hw (lv_sub hl [] rfl)
        · have hF1 := (if_neg c6).symm.trans hF1
          refine lv_iconst (v := 0) hx hb dX8_layValues_44 (by decide) ?_
          refine lv_istore_n (lv' := [(1, .int 0), (0, .ref a0)]) hx hb dX8_layValues_45 rfl hl (by decide) rfl (fun ls hl => ?_)
          refine lv_iconst (v := 0) hx hb dX8_layValues_46 (by decide) ?_
          refine lv_istore_n (lv' := [(2, .int 0), (1, .int 0), (0, .ref a0)]) hx hb dX8_layValues_47 rfl hl (by decide) rfl (fun ls hl => ?_)
          obtain ⟨z7, hz8, hF1⟩ := kk_bind hF1
          have hL8 : ∀ (n8 : Nat) (f_values_8 : Nat → Int32) (i1_8 : Int32) (i2_8 : Int32), kk_iter (fun (σ : ((Nat → Int32) × Int32 × Int32)) => L_X8_layValues_48 N x_many f_ends σ.1 σ.2.1 σ.2.2) n8 (f_values_8, i1_8, i2_8) = some z7 → ∀ (H : Heap) (locs : List Loc) (ls : Array Slot), kk_wd G A s.heap [(a0, .inr (8, [.ref a1, .int x_many, .int x_built, .int x_seed, .int x_graphSeed, .int x_bits, .int x_bucketMany, .int x_width, .ref a2, .ref a3, .ref a4, .ref a5, .ref a6, .ref a7, .ref a8, .ref a9, .ref a10, .ref a11, .ref a12, .int x_thrown])), (a10, .inl (cI, 360, .inl f_values_8)), (a11, .inl (cI, 360, .inl f_roots)), (a12, .inl (cI, 240, .inl f_ends))] H locs → lv_has ls 5 [(0, .ref a0), (1, .int i1_8), (2, .int i2_8)] → W p l e (kk_rm 1 0 0 22) s m ([.ref a0] : List Value).toArray below meth c H locs 0 0 Q (F0 m 48 ls []) := by
            intro n8
            induction n8 with
            | zero => intro f_values_8 i1_8 i2_8 h; exact kk_iter0 h
            | succ n8 ih8 =>
              intro f_values_8 i1_8 i2_8 hq H locs ls hw hl
              obtain ⟨y8, hF2, hI2⟩ := kk_iterS hq
              have hF2 : L_X8_layValues_48 N x_many f_ends f_values_8 i1_8 i2_8 = some y8 := hF2
              unfold L_X8_layValues_48 at hF2
              have hJ9 : ∀ (f_values_9 : Nat → Int32) (i1_9 : Int32) (i2_9 : Int32), J_X8_layValues_176 N f_values_9 i1_9 i2_9 = some y8 → ∀ (H : Heap) (locs : List Loc) (ls : Array Slot), kk_wd G A s.heap [(a0, .inr (8, [.ref a1, .int x_many, .int x_built, .int x_seed, .int x_graphSeed, .int x_bits, .int x_bucketMany, .int x_width, .ref a2, .ref a3, .ref a4, .ref a5, .ref a6, .ref a7, .ref a8, .ref a9, .ref a10, .ref a11, .ref a12, .int x_thrown])), (a10, .inl (cI, 360, .inl f_values_9)), (a11, .inl (cI, 360, .inl f_roots)), (a12, .inl (cI, 240, .inl f_ends))] H locs → lv_has ls 5 [(0, .ref a0), (1, .int i1_9), (2, .int i2_9)] → W p l e (kk_rm 1 0 0 22) s m ([.ref a0] : List Value).toArray below meth c H locs 0 0 Q (F0 m 176 ls []) := by
                intro f_values_9 i1_9 i2_9 hF2 H locs ls hw hl
                unfold J_X8_layValues_176 at hF2
                refine lv_iinc (v := (i2_9 + 1)) (lv' := [(2, .int (i2_9 + 1)), (0, .ref a0), (1, .int i1_9)]) hx hb dX8_layValues_176 hl (k := 2) rfl rfl (by decide) rfl (fun ls hl => ?_)
                refine lv_goto (tgt := 48) hx hb dX8_layValues_179 (by decide) ?_
                have hy := Option.some.inj hF2
                subst hy
                exact ih8 f_values_9 i1_9 (i2_9 + 1) hI2 _ _ _ hw (lv_sub hl [1, 2, 0] rfl)
              have hJ10 : ∀ (f_values_10 : Nat → Int32) (i1_10 : Int32) (i2_10 : Int32) (i3_10 : Int32) (i4_10 : Int32), J_X8_layValues_128 N x_many f_values_10 i1_10 i2_10 i3_10 i4_10 = some y8 → ∀ (H : Heap) (locs : List Loc) (ls : Array Slot), kk_wd G A s.heap [(a0, .inr (8, [.ref a1, .int x_many, .int x_built, .int x_seed, .int x_graphSeed, .int x_bits, .int x_bucketMany, .int x_width, .ref a2, .ref a3, .ref a4, .ref a5, .ref a6, .ref a7, .ref a8, .ref a9, .ref a10, .ref a11, .ref a12, .int x_thrown])), (a10, .inl (cI, 360, .inl f_values_10)), (a11, .inl (cI, 360, .inl f_roots)), (a12, .inl (cI, 240, .inl f_ends))] H locs → lv_has ls 5 [(0, .ref a0), (1, .int i1_10), (2, .int i2_10), (3, .int i3_10), (4, .int i4_10)] → W p l e (kk_rm 1 0 0 22) s m ([.ref a0] : List Value).toArray below meth c H locs 0 0 Q (F0 m 128 ls []) := by
                intro f_values_10 i1_10 i2_10 i3_10 i4_10 hF2 H locs ls hw hl
                unfold J_X8_layValues_128 at hF2
                refine lv_aload_n hx hb dX8_layValues_128 rfl (lv_at hl 0 rfl) ?_
                refine kk_get (T := TX8) F hw ui_X8_layValues_X8 0 rfl rfl 16 (by decide) m_X8_layValues_Cond_fieldLink_RX8_38_PerfectPewModel_values_I_ rfl dX8_layValues_129 ?_
                refine lv_iload hx hb dX8_layValues_132 (lv_at hl 4 rfl) ?_
                obtain ⟨v11, ev11, hF2⟩ := kk_bind hF2
                refine kk_iald F hw 1 rfl ev11 dX8_layValues_134 ?_
                refine lv_iconst (v := (-1)) hx hb dX8_layValues_135 (by decide) ?_
                refine lv_icmp_eq (tgt := 176) hx hb dX8_layValues_136 (by decide) (fun c12 => ?_) (fun c12 => ?_)
                · have hF2 := (if_pos c12).symm.trans hF2
                  exact hJ9 f_values_10 i1_10 i2_10 hF2 _ _ _ hw (lv_sub hl [0, 1, 2] rfl)
                · have hF2 := (if_neg c12).symm.trans hF2
                  refine lv_aload_n hx hb dX8_layValues_139 rfl (lv_at hl 0 rfl) ?_
                  refine kk_get (T := TX8) F hw ui_X8_layValues_X8 0 rfl rfl 16 (by decide) m_X8_layValues_Cond_fieldLink_RX8_38_PerfectPewModel_values_I_ rfl dX8_layValues_140 ?_
                  refine lv_iload_n hx hb dX8_layValues_143 rfl (lv_at hl 3 rfl) ?_
                  obtain ⟨v13, ev13, hF2⟩ := kk_bind hF2
                  refine kk_iald F hw 1 rfl ev13 dX8_layValues_144 ?_
                  refine lv_iconst (v := (-1)) hx hb dX8_layValues_145 (by decide) ?_
                  refine lv_icmp_ne (tgt := 176) hx hb dX8_layValues_146 (by decide) (fun c14 => ?_) (fun c14 => ?_)
                  · have hF2 := (if_neg c14).symm.trans hF2
                    exact hJ9 f_values_10 i1_10 i2_10 hF2 _ _ _ hw (lv_sub hl [0, 1, 2] rfl)
                  · have hF2 := (if_pos c14).symm.trans hF2
                    refine lv_aload_n hx hb dX8_layValues_149 rfl (lv_at hl 0 rfl) ?_
                    refine kk_get (T := TX8) F hw ui_X8_layValues_X8 0 rfl rfl 16 (by decide) m_X8_layValues_Cond_fieldLink_RX8_38_PerfectPewModel_values_I_ rfl dX8_layValues_150 ?_
                    refine lv_iload_n hx hb dX8_layValues_153 rfl (lv_at hl 3 rfl) ?_
                    refine lv_iload_n hx hb dX8_layValues_154 rfl (lv_at hl 2 rfl) ?_
                    refine lv_aload_n hx hb dX8_layValues_155 rfl (lv_at hl 0 rfl) ?_
                    refine kk_get (T := TX8) F hw ui_X8_layValues_X8 0 rfl rfl 1 (by decide) m_X8_layValues_Cond_fieldLink_RX8_99_PerfectPewModel_many_I_ rfl dX8_layValues_156 ?_
                    refine lv_iadd hx hb dX8_layValues_159 ?_
                    refine lv_aload_n hx hb dX8_layValues_160 rfl (lv_at hl 0 rfl) ?_
                    refine kk_get (T := TX8) F hw ui_X8_layValues_X8 0 rfl rfl 16 (by decide) m_X8_layValues_Cond_fieldLink_RX8_38_PerfectPewModel_values_I_ rfl dX8_layValues_161 ?_
                    refine lv_iload hx hb dX8_layValues_164 (lv_at hl 4 rfl) ?_
                    obtain ⟨v15, ev15, hF2⟩ := kk_bind hF2
                    refine kk_iald F hw 1 rfl ev15 dX8_layValues_166 ?_
                    refine lv_isub hx hb dX8_layValues_167 ?_
                    refine lv_aload_n hx hb dX8_layValues_168 rfl (lv_at hl 0 rfl) ?_
                    refine kk_get (T := TX8) F hw ui_X8_layValues_X8 0 rfl rfl 1 (by decide) m_X8_layValues_Cond_fieldLink_RX8_99_PerfectPewModel_many_I_ rfl dX8_layValues_169 ?_
                    obtain ⟨u16, eu16, hF2⟩ := kk_bind hF2
                    refine lv_irem hx hb dX8_layValues_172 (kk_nz_ok eu16) ?_
                    obtain ⟨w17, ew17, hF2⟩ := kk_bind hF2
                    refine kk_iast F hw 1 rfl ew17 dX8_layValues_173 (fun H locs hw => ?_)
                    have hw : kk_wd G A s.heap [(a0, .inr (8, [.ref a1, .int x_many, .int x_built, .int x_seed, .int x_graphSeed, .int x_bits, .int x_bucketMany, .int x_width, .ref a2, .ref a3, .ref a4, .ref a5, .ref a6, .ref a7, .ref a8, .ref a9, .ref a10, .ref a11, .ref a12, .int x_thrown])), (a10, .inl (cI, 360, .inl w17)), (a11, .inl (cI, 360, .inl f_roots)), (a12, .inl (cI, 240, .inl f_ends))] H locs := hw
                    refine lv_iconst (v := 1) hx hb dX8_layValues_174 (by decide) ?_
                    refine lv_istore_n (lv' := [(1, .int 1), (0, .ref a0), (2, .int i2_10), (3, .int i3_10), (4, .int i4_10)]) hx hb dX8_layValues_175 rfl hl (by decide) rfl (fun ls hl => ?_)
                    exact hJ9 w17 1 i2_10 hF2 _ _ _ hw (lv_sub hl [1, 0, 2] rfl)
              refine lv_iload_n hx hb dX8_layValues_48 rfl (lv_at hl 2 rfl) ?_
              refine lv_aload_n hx hb dX8_layValues_49 rfl (lv_at hl 0 rfl) ?_
              refine kk_get (T := TX8) F hw ui_X8_layValues_X8 0 rfl rfl 1 (by decide) m_X8_layValues_Cond_fieldLink_RX8_99_PerfectPewModel_many_I_ rfl dX8_layValues_50 ?_
              refine lv_icmp_ge (tgt := 182) hx hb dX8_layValues_53 (by decide) (fun c18 => ?_) (fun c18 => ?_)
              · have hF2 := (if_pos c18).symm.trans hF2
                have hy := Option.some.inj hF2
                subst hy
                have hz := Option.some.inj hI2
                subst hz
                exact hJ5 f_values_8 i1_8 hF1 _ _ _ hw (lv_sub hl [0, 1] rfl)
              · have hF2 := (if_neg c18).symm.trans hF2
                refine lv_aload_n hx hb dX8_layValues_56 rfl (lv_at hl 0 rfl) ?_
                refine kk_get (T := TX8) F hw ui_X8_layValues_X8 0 rfl rfl 18 (by decide) m_X8_layValues_Cond_fieldLink_RX8_44_PerfectPewModel_ends_I_ rfl dX8_layValues_57 ?_
                refine lv_iconst (v := 2) hx hb dX8_layValues_60 (by decide) ?_
                refine lv_iload_n hx hb dX8_layValues_61 rfl (lv_at hl 2 rfl) ?_
                refine lv_imul hx hb dX8_layValues_62 ?_
                obtain ⟨v19, ev19, hF2⟩ := kk_bind hF2
                refine kk_iald F hw 3 rfl ev19 dX8_layValues_63 ?_
                refine lv_istore_n (lv' := [(3, .int v19), (0, .ref a0), (1, .int i1_8), (2, .int i2_8)]) hx hb dX8_layValues_64 rfl hl (by decide) rfl (fun ls hl => ?_)
                refine lv_aload_n hx hb dX8_layValues_65 rfl (lv_at hl 1 rfl) ?_
                refine kk_get (T := TX8) F hw ui_X8_layValues_X8 0 rfl rfl 18 (by decide) m_X8_layValues_Cond_fieldLink_RX8_44_PerfectPewModel_ends_I_ rfl dX8_layValues_66 ?_
                refine lv_iconst (v := 2) hx hb dX8_layValues_69 (by decide) ?_
                refine lv_iload_n hx hb dX8_layValues_70 rfl (lv_at hl 3 rfl) ?_
                refine lv_imul hx hb dX8_layValues_71 ?_
                refine lv_iconst (v := 1) hx hb dX8_layValues_72 (by decide) ?_
                refine lv_iadd hx hb dX8_layValues_73 ?_
                obtain ⟨v20, ev20, hF2⟩ := kk_bind hF2
                refine kk_iald F hw 3 rfl ev20 dX8_layValues_74 ?_
                refine lv_istore (lv' := [(4, .int v20), (3, .int v19), (0, .ref a0), (1, .int i1_8), (2, .int i2_8)]) hx hb dX8_layValues_75 hl (by decide) rfl (fun ls hl => ?_)
                refine lv_aload_n hx hb dX8_layValues_77 rfl (lv_at hl 2 rfl) ?_
                refine kk_get (T := TX8) F hw ui_X8_layValues_X8 0 rfl rfl 16 (by decide) m_X8_layValues_Cond_fieldLink_RX8_38_PerfectPewModel_values_I_ rfl dX8_layValues_78 ?_
                refine lv_iload_n hx hb dX8_layValues_81 rfl (lv_at hl 1 rfl) ?_
                obtain ⟨v21, ev21, hF2⟩ := kk_bind hF2
                refine kk_iald F hw 1 rfl ev21 dX8_layValues_82 ?_
                refine lv_iconst (v := (-1)) hx hb dX8_layValues_83 (by decide) ?_
                refine lv_icmp_eq (tgt := 128) hx hb dX8_layValues_84 (by decide) (fun c22 => ?_) (fun c22 => ?_)
                · have hF2 := (if_pos c22).symm.trans hF2
                  exact hJ10 f_values_8 i1_8 i2_8 v19 v20 hF2 _ _ _ hw (lv_sub hl [2, 3, 4, 1, 0] rfl)
                · have hF2 := (if_neg c22).symm.trans hF2
                  refine lv_aload_n hx hb dX8_layValues_87 rfl (lv_at hl 2 rfl) ?_
                  refine kk_get (T := TX8) F hw ui_X8_layValues_X8 0 rfl rfl 16 (by decide) m_X8_layValues_Cond_fieldLink_RX8_38_PerfectPewModel_values_I_ rfl dX8_layValues_88 ?_
                  refine lv_iload hx hb dX8_layValues_91 (lv_at hl 0 rfl) ?_
                  obtain ⟨v23, ev23, hF2⟩ := kk_bind hF2
                  refine kk_iald F hw 1 rfl ev23 dX8_layValues_93 ?_
                  refine lv_iconst (v := (-1)) hx hb dX8_layValues_94 (by decide) ?_
                  refine lv_icmp_ne (tgt := 128) hx hb dX8_layValues_95 (by decide) (fun c24 => ?_) (fun c24 => ?_)
                  · have hF2 := (if_neg c24).symm.trans hF2
                    exact hJ10 f_values_8 i1_8 i2_8 v19 v20 hF2 _ _ _ hw (lv_sub hl [2, 3, 4, 1, 0] rfl)
                  · have hF2 := (if_pos c24).symm.trans hF2
                    refine lv_aload_n hx hb dX8_layValues_98 rfl (lv_at hl 2 rfl) ?_
                    refine kk_get (T := TX8) F hw ui_X8_layValues_X8 0 rfl rfl 16 (by decide) m_X8_layValues_Cond_fieldLink_RX8_38_PerfectPewModel_values_I_ rfl dX8_layValues_99 ?_
                    refine lv_iload hx hb dX8_layValues_102 (lv_at hl 0 rfl) ?_
                    refine lv_iload_n hx hb dX8_layValues_104 rfl (lv_at hl 4 rfl) ?_
                    refine lv_aload_n hx hb dX8_layValues_105 rfl (lv_at hl 2 rfl) ?_
                    refine kk_get (T := TX8) F hw ui_X8_layValues_X8 0 rfl rfl 1 (by decide) m_X8_layValues_Cond_fieldLink_RX8_99_PerfectPewModel_many_I_ rfl dX8_layValues_106 ?_
                    refine lv_iadd hx hb dX8_layValues_109 ?_
                    refine lv_aload_n hx hb dX8_layValues_110 rfl (lv_at hl 2 rfl) ?_
                    refine kk_get (T := TX8) F hw ui_X8_layValues_X8 0 rfl rfl 16 (by decide) m_X8_layValues_Cond_fieldLink_RX8_38_PerfectPewModel_values_I_ rfl dX8_layValues_111 ?_
                    refine lv_iload_n hx hb dX8_layValues_114 rfl (lv_at hl 1 rfl) ?_
                    obtain ⟨v25, ev25, hF2⟩ := kk_bind hF2
                    refine kk_iald F hw 1 rfl ev25 dX8_layValues_115 ?_
                    refine lv_isub hx hb dX8_layValues_116 ?_
                    refine lv_aload_n hx hb dX8_layValues_117 rfl (lv_at hl 2 rfl) ?_
                    refine kk_get (T := TX8) F hw ui_X8_layValues_X8 0 rfl rfl 1 (by decide) m_X8_layValues_Cond_fieldLink_RX8_99_PerfectPewModel_many_I_ rfl dX8_layValues_118 ?_
                    obtain ⟨u26, eu26, hF2⟩ := kk_bind hF2
                    refine lv_irem hx hb dX8_layValues_121 (kk_nz_ok eu26) ?_
                    obtain ⟨w27, ew27, hF2⟩ := kk_bind hF2
                    refine kk_iast F hw 1 rfl ew27 dX8_layValues_122 (fun H locs hw => ?_)
                    have hw : kk_wd G A s.heap [(a0, .inr (8, [.ref a1, .int x_many, .int x_built, .int x_seed, .int x_graphSeed, .int x_bits, .int x_bucketMany, .int x_width, .ref a2, .ref a3, .ref a4, .ref a5, .ref a6, .ref a7, .ref a8, .ref a9, .ref a10, .ref a11, .ref a12, .int x_thrown])), (a10, .inl (cI, 360, .inl w27)), (a11, .inl (cI, 360, .inl f_roots)), (a12, .inl (cI, 240, .inl f_ends))] H locs := hw
                    refine lv_iconst (v := 1) hx hb dX8_layValues_123 (by decide) ?_
                    refine lv_istore_n (lv' := [(1, .int 1), (4, .int v20), (3, .int v19), (0, .ref a0), (2, .int i2_8)]) hx hb dX8_layValues_124 rfl hl (by decide) rfl (fun ls hl => ?_)
                    refine lv_goto (tgt := 176) hx hb dX8_layValues_125 (by decide) ?_
                    exact hJ9 w27 1 i2_8 hF2 _ _ _ hw (lv_sub hl [3, 0, 4] rfl)
          exact hL8 N f_values_4 0 0 hz8 _ _ _ hw (lv_sub hl [2, 1, 0] rfl)
    exact hL4 N f_values_2 1 hz4 _ _ _ hw (lv_sub hl [1, 0] rfl)
  refine lv_iconst (v := 0) hx hb dX8_layValues_0 (by decide) ?_
  refine lv_istore_n (lv' := [(1, .int 0), (0, .ref a0)]) hx hb dX8_layValues_1 rfl hl (by decide) rfl (fun ls hl => ?_)
  obtain ⟨z28, hz29, hF0⟩ := kk_bind hF0
  have hL29 : ∀ (n29 : Nat) (f_values_29 : Nat → Int32) (i1_29 : Int32), kk_iter (fun (σ : ((Nat → Int32) × Int32)) => L_X8_layValues_2 N x_many f_roots σ.1 σ.2) n29 (f_values_29, i1_29) = some z28 → ∀ (H : Heap) (locs : List Loc) (ls : Array Slot), kk_wd G A s.heap [(a0, .inr (8, [.ref a1, .int x_many, .int x_built, .int x_seed, .int x_graphSeed, .int x_bits, .int x_bucketMany, .int x_width, .ref a2, .ref a3, .ref a4, .ref a5, .ref a6, .ref a7, .ref a8, .ref a9, .ref a10, .ref a11, .ref a12, .int x_thrown])), (a10, .inl (cI, 360, .inl f_values_29)), (a11, .inl (cI, 360, .inl f_roots)), (a12, .inl (cI, 240, .inl f_ends))] H locs → lv_has ls 5 [(0, .ref a0), (1, .int i1_29)] → W p l e (kk_rm 1 0 0 22) s m ([.ref a0] : List Value).toArray below meth c H locs 0 0 Q (F0 m 2 ls []) := by
    intro n29
    induction n29 with
    | zero => intro f_values_29 i1_29 h; exact kk_iter0 h
    | succ n29 ih29 =>
      intro f_values_29 i1_29 hq H locs ls hw hl
      obtain ⟨y29, hF1, hI1⟩ := kk_iterS hq
      have hF1 : L_X8_layValues_2 N x_many f_roots f_values_29 i1_29 = some y29 := hF1
      unfold L_X8_layValues_2 at hF1
      have hJ30 : ∀ (f_values_30 : Nat → Int32) (i1_30 : Int32) (s1_30 : Int32) (s2_30 : Int32), J_X8_layValues_31 N f_values_30 i1_30 s1_30 s2_30 = some y29 → ∀ (H : Heap) (locs : List Loc) (ls : Array Slot), kk_wd G A s.heap [(a0, .inr (8, [.ref a1, .int x_many, .int x_built, .int x_seed, .int x_graphSeed, .int x_bits, .int x_bucketMany, .int x_width, .ref a2, .ref a3, .ref a4, .ref a5, .ref a6, .ref a7, .ref a8, .ref a9, .ref a10, .ref a11, .ref a12, .int x_thrown])), (a10, .inl (cI, 360, .inl f_values_30)), (a11, .inl (cI, 360, .inl f_roots)), (a12, .inl (cI, 240, .inl f_ends))] H locs → lv_has ls 5 [(0, .ref a0), (1, .int i1_30)] → W p l e (kk_rm 1 0 0 22) s m ([.ref a0] : List Value).toArray below meth c H locs 0 0 Q (F0 m 31 ls [.int s2_30, .int s1_30, .ref a10]) := by
        intro f_values_30 i1_30 s1_30 s2_30 hF1 H locs ls hw hl
        unfold J_X8_layValues_31 at hF1
        obtain ⟨w31, ew31, hF1⟩ := kk_bind hF1
        refine kk_iast F hw 1 rfl ew31 dX8_layValues_31 (fun H locs hw => ?_)
        have hw : kk_wd G A s.heap [(a0, .inr (8, [.ref a1, .int x_many, .int x_built, .int x_seed, .int x_graphSeed, .int x_bits, .int x_bucketMany, .int x_width, .ref a2, .ref a3, .ref a4, .ref a5, .ref a6, .ref a7, .ref a8, .ref a9, .ref a10, .ref a11, .ref a12, .int x_thrown])), (a10, .inl (cI, 360, .inl w31)), (a11, .inl (cI, 360, .inl f_roots)), (a12, .inl (cI, 240, .inl f_ends))] H locs := hw
        refine lv_iinc (v := (i1_30 + 1)) (lv' := [(1, .int (i1_30 + 1)), (0, .ref a0)]) hx hb dX8_layValues_32 hl (k := 1) rfl rfl (by decide) rfl (fun ls hl => ?_)
        refine lv_goto (tgt := 2) hx hb dX8_layValues_35 (by decide) ?_
        have hy := Option.some.inj hF1
        subst hy
        exact ih29 w31 (i1_30 + 1) hI1 _ _ _ hw (lv_sub hl [1, 0] rfl)
      refine lv_iload_n hx hb dX8_layValues_2 rfl (lv_at hl 1 rfl) ?_
      refine lv_iconst (v := 3) hx hb dX8_layValues_3 (by decide) ?_
      refine lv_aload_n hx hb dX8_layValues_4 rfl (lv_at hl 0 rfl) ?_
      refine kk_get (T := TX8) F hw ui_X8_layValues_X8 0 rfl rfl 1 (by decide) m_X8_layValues_Cond_fieldLink_RX8_99_PerfectPewModel_many_I_ rfl dX8_layValues_5 ?_
      refine lv_imul hx hb dX8_layValues_8 ?_
      refine lv_icmp_ge (tgt := 38) hx hb dX8_layValues_9 (by decide) (fun c32 => ?_) (fun c32 => ?_)
      · have hF1 := (if_pos c32).symm.trans hF1
        have hy := Option.some.inj hF1
        subst hy
        have hz := Option.some.inj hI1
        subst hz
        exact hJ2 f_values_29 hF0 _ _ _ hw (lv_sub hl [0] rfl)
      · have hF1 := (if_neg c32).symm.trans hF1
        refine lv_aload_n hx hb dX8_layValues_12 rfl (lv_at hl 0 rfl) ?_
        refine kk_get (T := TX8) F hw ui_X8_layValues_X8 0 rfl rfl 16 (by decide) m_X8_layValues_Cond_fieldLink_RX8_38_PerfectPewModel_values_I_ rfl dX8_layValues_13 ?_
        refine lv_iload_n hx hb dX8_layValues_16 rfl (lv_at hl 1 rfl) ?_
        refine lv_aload_n hx hb dX8_layValues_17 rfl (lv_at hl 0 rfl) ?_
        refine lv_iload_n hx hb dX8_layValues_18 rfl (lv_at hl 1 rfl) ?_
        obtain ⟨v33, ev33, hF1⟩ := kk_bind hF1
        refine kk_callI 0 0 hw (kk_runV (As := [.int i1_29]) (rest := [.int i1_29, .ref a10]) F hw hl.1 (c_X8_root l G cI cJ ad a0 a1 a2 a3 a4 a5 a6 a7 a8 a9 a10 a11 a12 x_many x_built x_seed x_graphSeed x_bits x_bucketMany x_width x_thrown f_roots i1_29 N v33 ev33 H.size) gX8_layValues_X8_root rfl ⟨rfl, md_X8_root⟩ ⟨Nat.le_of_ble_eq_true rfl, Nat.le_of_ble_eq_true rfl⟩ ⟨Nat.le_of_ble_eq_true rfl, Nat.le_of_ble_eq_true rfl⟩ 0 8 rfl rfl rfl rfl (Nat.le_of_ble_eq_true rfl) dX8_layValues_19) ⟨rfl, rfl⟩ [0, 2] (by decide) rfl rfl (fun H locs hw => ?_)
        have hw : kk_wd G A s.heap [(a0, .inr (8, [.ref a1, .int x_many, .int x_built, .int x_seed, .int x_graphSeed, .int x_bits, .int x_bucketMany, .int x_width, .ref a2, .ref a3, .ref a4, .ref a5, .ref a6, .ref a7, .ref a8, .ref a9, .ref a10, .ref a11, .ref a12, .int x_thrown])), (a10, .inl (cI, 360, .inl f_values_29)), (a11, .inl (cI, 360, .inl f_roots)), (a12, .inl (cI, 240, .inl f_ends))] H locs := hw
        refine lv_iload_n hx hb dX8_layValues_22 rfl (lv_at hl 1 rfl) ?_
        refine lv_icmp_ne (tgt := 30) hx hb dX8_layValues_23 (by decide) (fun c34 => ?_) (fun c34 => ?_)
        · have hF1 := (if_neg c34).symm.trans hF1
          refine lv_iconst (v := (-1)) hx hb dX8_layValues_30 (by decide) ?_
          exact hJ30 f_values_29 i1_29 i1_29 (-1) hF1 _ _ _ hw (lv_sub hl [0, 1] rfl)
        · have hF1 := (if_pos c34).symm.trans hF1
          refine lv_iconst (v := 0) hx hb dX8_layValues_26 (by decide) ?_
          refine lv_goto (tgt := 31) hx hb dX8_layValues_27 (by decide) ?_
          exact hJ30 f_values_29 i1_29 i1_29 0 hF1 _ _ _ hw (lv_sub hl [0, 1] rfl)
  exact hL29 N f_values 0 hz29 _ _ _ hw (lv_sub hl [1, 0] rfl)
theorem ui_X8_pack_X8 : ∀ w ∈ u_ws RX8 TX8 20, w ∈ wsX8_pack := by decide +kernel
theorem m_X8_pack_Cond_fieldLink_RX8_149_PerfectPewModel_bucketMany_I_ : Cond.fieldLink RX8 149 "PerfectPewModel" "bucketMany" "I" ∈ wsX8_pack := by decide +kernel
theorem m_X8_pack_Cond_fieldLink_RX8_152_PerfectPewModel_width_I_ : Cond.fieldLink RX8 152 "PerfectPewModel" "width" "I" ∈ wsX8_pack := by decide +kernel
theorem m_X8_pack_Cond_fieldLink_RX8_16_PerfectPewModel_shift_I_ : Cond.fieldLink RX8 16 "PerfectPewModel" "shift" "[I" ∈ wsX8_pack := by decide +kernel
theorem m_X8_pack_Cond_fieldLink_RX8_34_PerfectPewModel_words_J_ : Cond.fieldLink RX8 34 "PerfectPewModel" "words" "[J" ∈ wsX8_pack := by decide +kernel
set_option maxRecDepth 100000 in
set_option maxHeartbeats 4000000 in
theorem c_X8_pack (l : Launch) (G : va_G) (cI cJ : ClassId) (ad : Nat → Nat) (a0 a1 a2 a3 a4 a5 a6 a7 a8 a9 a10 a11 a12 : Nat) (x_many : Int32) (x_built : Int32) (x_seed : Int32) (x_graphSeed : Int32) (x_bits : Int32) (x_bucketMany : Int32) (x_width : Int32) (x_thrown : Int32) (f_shift : Nat → Int32) (f_words : Nat → Int64) (N : Nat) (x : (Int32 × (Nat → Int64))) (hF0 : F_X8_pack N x_bucketMany x_width f_shift f_words = some x) : kk_V l yX8_pack wsX8_pack 0 0 0 0 [.ref a0] G cI cJ ad [(a0, .inr (8, [.ref a1, .int x_many, .int x_built, .int x_seed, .int x_graphSeed, .int x_bits, .int x_bucketMany, .int x_width, .ref a2, .ref a3, .ref a4, .ref a5, .ref a6, .ref a7, .ref a8, .ref a9, .ref a10, .ref a11, .ref a12, .int x_thrown])), (a3, .inl (cI, 120, .inl f_shift)), (a9, .inl (cJ, 20, .inr (.inl f_words)))] [(a0, .inr (8, [.ref a1, .int x_many, .int x_built, .int x_seed, .int x_graphSeed, .int x_bits, .int x_bucketMany, .int x.1, .ref a2, .ref a3, .ref a4, .ref a5, .ref a6, .ref a7, .ref a8, .ref a9, .ref a10, .ref a11, .ref a12, .int x_thrown])), (a3, .inl (cI, 120, .inl f_shift)), (a9, .inl (cJ, 20, .inr (.inl x.2)))] := by
  refine kk_ofV (cc := cX8_pack) (maxL := 5) (by decide) rfl (Nat.le_of_ble_eq_true rfl) ?_
  intro p e s m below meth c A Q ls H locs hx hb hml hown hts hE hw hl hret
  have F : kk_at p m c cX8_pack 5 s _ wsX8_pack RX8 G cI cJ ad A := ⟨⟨hx, hb, hml, hown, hts⟩, hE⟩
  have hl : lv_has ls 5 [(0, .ref a0)] := hl
  unfold F_X8_pack at hF0
  have hJ1 : ∀ (x_width_1 : Int32) (f_words_1 : Nat → Int64), J_X8_pack_148 N x_width_1 f_words_1 = some x → ∀ (H : Heap) (locs : List Loc) (ls : Array Slot), kk_wd G A s.heap [(a0, .inr (8, [.ref a1, .int x_many, .int x_built, .int x_seed, .int x_graphSeed, .int x_bits, .int x_bucketMany, .int x_width_1, .ref a2, .ref a3, .ref a4, .ref a5, .ref a6, .ref a7, .ref a8, .ref a9, .ref a10, .ref a11, .ref a12, .int x_thrown])), (a3, .inl (cI, 120, .inl f_shift)), (a9, .inl (cJ, 20, .inr (.inl f_words_1)))] H locs → lv_has ls 5 [] → W p l e (kk_rm 0 0 0 0) s m ([.ref a0] : List Value).toArray below meth c H locs 0 0 Q (F0 m 148 ls []) := by
    intro x_width_1 f_words_1 hF0 H locs ls hw hl
    unfold J_X8_pack_148 at hF0
    have hy := Option.some.inj hF0
    subst hy
    exact hret dX8_pack_148 (by decide) (by decide) hw
  have hJ2 : ∀ (x_width_2 : Int32) (f_words_2 : Nat → Int64), J_X8_pack_87 N x_bucketMany x_width_2 f_shift f_words_2 = some x → ∀ (H : Heap) (locs : List Loc) (ls : Array Slot), kk_wd G A s.heap [(a0, .inr (8, [.ref a1, .int x_many, .int x_built, .int x_seed, .int x_graphSeed, .int x_bits, .int x_bucketMany, .int x_width_2, .ref a2, .ref a3, .ref a4, .ref a5, .ref a6, .ref a7, .ref a8, .ref a9, .ref a10, .ref a11, .ref a12, .int x_thrown])), (a3, .inl (cI, 120, .inl f_shift)), (a9, .inl (cJ, 20, .inr (.inl f_words_2)))] H locs → lv_has ls 5 [(0, .ref a0)] → W p l e (kk_rm 0 0 0 0) s m ([.ref a0] : List Value).toArray below meth c H locs 0 0 Q (F0 m 87 ls []) := by
    intro x_width_2 f_words_2 hF0 H locs ls hw hl
    unfold J_X8_pack_87 at hF0
    refine lv_iconst (v := 0) hx hb dX8_pack_87 (by decide) ?_
    refine lv_istore_n (lv' := [(2, .int 0), (0, .ref a0)]) hx hb dX8_pack_88 rfl hl (by decide) rfl (fun ls hl => ?_)
    obtain ⟨z3, hz4, hF0⟩ := kk_bind hF0
    have hL4 : ∀ (n4 : Nat) (f_words_4 : Nat → Int64) (i2_4 : Int32), kk_iter (fun (σ : ((Nat → Int64) × Int32)) => L_X8_pack_89 N x_bucketMany x_width_2 f_shift σ.1 σ.2) n4 (f_words_4, i2_4) = some z3 → ∀ (H : Heap) (locs : List Loc) (ls : Array Slot), kk_wd G A s.heap [(a0, .inr (8, [.ref a1, .int x_many, .int x_built, .int x_seed, .int x_graphSeed, .int x_bits, .int x_bucketMany, .int x_width_2, .ref a2, .ref a3, .ref a4, .ref a5, .ref a6, .ref a7, .ref a8, .ref a9, .ref a10, .ref a11, .ref a12, .int x_thrown])), (a3, .inl (cI, 120, .inl f_shift)), (a9, .inl (cJ, 20, .inr (.inl f_words_4)))] H locs → lv_has ls 5 [(0, .ref a0), (2, .int i2_4)] → W p l e (kk_rm 0 0 0 0) s m ([.ref a0] : List Value).toArray below meth c H locs 0 0 Q (F0 m 89 ls []) := by
      intro n4
      induction n4 with
      | zero => intro f_words_4 i2_4 h; exact kk_iter0 h
      | succ n4 ih4 =>
        intro f_words_4 i2_4 hq H locs ls hw hl
        obtain ⟨y4, hF1, hI1⟩ := kk_iterS hq
        have hF1 : L_X8_pack_89 N x_bucketMany x_width_2 f_shift f_words_4 i2_4 = some y4 := hF1
        unfold L_X8_pack_89 at hF1
        refine lv_iload_n hx hb dX8_pack_89 rfl (lv_at hl 1 rfl) ?_
        refine lv_aload_n hx hb dX8_pack_90 rfl (lv_at hl 0 rfl) ?_
        refine kk_get (T := TX8) F hw ui_X8_pack_X8 0 rfl rfl 6 (by decide) m_X8_pack_Cond_fieldLink_RX8_149_PerfectPewModel_bucketMany_I_ rfl dX8_pack_91 ?_
        refine lv_aload_n hx hb dX8_pack_94 rfl (lv_at hl 0 rfl) ?_
        refine kk_get (T := TX8) F hw ui_X8_pack_X8 0 rfl rfl 7 (by decide) m_X8_pack_Cond_fieldLink_RX8_152_PerfectPewModel_width_I_ rfl dX8_pack_95 ?_
        refine lv_imul hx hb dX8_pack_98 ?_
        refine lv_icmp_ge (tgt := 148) hx hb dX8_pack_99 (by decide) (fun c5 => ?_) (fun c5 => ?_)
        · have hF1 := (if_pos c5).symm.trans hF1
          have hy := Option.some.inj hF1
          subst hy
          have hz := Option.some.inj hI1
          subst hz
          exact hJ1 x_width_2 f_words_4 hF0 _ _ _ hw (lv_sub hl [] rfl)
        · have hF1 := (if_neg c5).symm.trans hF1
          refine lv_aload_n hx hb dX8_pack_102 rfl (lv_at hl 0 rfl) ?_
          refine kk_get (T := TX8) F hw ui_X8_pack_X8 0 rfl rfl 9 (by decide) m_X8_pack_Cond_fieldLink_RX8_16_PerfectPewModel_shift_I_ rfl dX8_pack_103 ?_
          refine lv_iload_n hx hb dX8_pack_106 rfl (lv_at hl 1 rfl) ?_
          refine lv_aload_n hx hb dX8_pack_107 rfl (lv_at hl 0 rfl) ?_
          refine kk_get (T := TX8) F hw ui_X8_pack_X8 0 rfl rfl 7 (by decide) m_X8_pack_Cond_fieldLink_RX8_152_PerfectPewModel_width_I_ rfl dX8_pack_108 ?_
          obtain ⟨u6, eu6, hF1⟩ := kk_bind hF1
          refine lv_idiv hx hb dX8_pack_111 (kk_nz_ok eu6) ?_
          obtain ⟨v7, ev7, hF1⟩ := kk_bind hF1
          refine kk_iald F hw 1 rfl ev7 dX8_pack_112 ?_
          refine lv_iload_n hx hb dX8_pack_113 rfl (lv_at hl 1 rfl) ?_
          refine lv_aload_n hx hb dX8_pack_114 rfl (lv_at hl 0 rfl) ?_
          refine kk_get (T := TX8) F hw ui_X8_pack_X8 0 rfl rfl 7 (by decide) m_X8_pack_Cond_fieldLink_RX8_152_PerfectPewModel_width_I_ rfl dX8_pack_115 ?_
          obtain ⟨u8, eu8, hF1⟩ := kk_bind hF1
          refine lv_irem hx hb dX8_pack_118 (kk_nz_ok eu8) ?_
          refine lv_ishr hx hb dX8_pack_119 ?_
          refine lv_iconst (v := 1) hx hb dX8_pack_120 (by decide) ?_
          refine lv_iand hx hb dX8_pack_121 ?_
          refine lv_i2l hx hb dX8_pack_122 rfl ?_
          refine lv_lstore_n (lv' := [(3, .long (Int32.toInt64 ((v7 >>> ((kk_rem i2_4 x_width_2) &&& 31)) &&& 1))), (0, .ref a0), (2, .int i2_4)]) hx hb dX8_pack_123 rfl hl (by decide) rfl (fun ls hl => ?_)
          refine lv_aload_n hx hb dX8_pack_124 rfl (lv_at hl 1 rfl) ?_
          refine kk_get (T := TX8) F hw ui_X8_pack_X8 0 rfl rfl 15 (by decide) m_X8_pack_Cond_fieldLink_RX8_34_PerfectPewModel_words_J_ rfl dX8_pack_125 ?_
          refine lv_iload_n hx hb dX8_pack_128 rfl (lv_at hl 2 rfl) ?_
          refine lv_bipush (v := 64) hx hb dX8_pack_129 (by decide) ?_
          refine lv_idiv hx hb dX8_pack_131 (by decide) ?_
          refine lv_dup2_11 hx hb dX8_pack_132 rfl rfl ?_
          obtain ⟨v9, ev9, hF1⟩ := kk_bind hF1
          refine kk_lald F hw 2 rfl ev9 dX8_pack_133 ?_
          refine lv_lload_n hx hb dX8_pack_134 rfl (lv_at hl 0 rfl) ?_
          refine lv_iload_n hx hb dX8_pack_135 rfl (lv_at hl 2 rfl) ?_
          refine lv_bipush (v := 64) hx hb dX8_pack_136 (by decide) ?_
          refine lv_irem hx hb dX8_pack_138 (by decide) ?_
          refine lv_lshl hx hb dX8_pack_139 rfl ?_
          refine lv_lor hx hb dX8_pack_140 ?_
          obtain ⟨w10, ew10, hF1⟩ := kk_bind hF1
          refine kk_last F hw 2 rfl ew10 dX8_pack_141 (fun H locs hw => ?_)
          have hw : kk_wd G A s.heap [(a0, .inr (8, [.ref a1, .int x_many, .int x_built, .int x_seed, .int x_graphSeed, .int x_bits, .int x_bucketMany, .int x_width_2, .ref a2, .ref a3, .ref a4, .ref a5, .ref a6, .ref a7, .ref a8, .ref a9, .ref a10, .ref a11, .ref a12, .int x_thrown])), (a3, .inl (cI, 120, .inl f_shift)), (a9, .inl (cJ, 20, .inr (.inl w10)))] H locs := hw
          refine lv_iinc (v := (i2_4 + 1)) (lv' := [(2, .int (i2_4 + 1)), (3, .long (Int32.toInt64 ((v7 >>> ((kk_rem i2_4 x_width_2) &&& 31)) &&& 1))), (0, .ref a0)]) hx hb dX8_pack_142 hl (k := 2) rfl rfl (by decide) rfl (fun ls hl => ?_)
          refine lv_goto (tgt := 89) hx hb dX8_pack_145 (by decide) ?_
          have hy := Option.some.inj hF1
          subst hy
          exact ih4 w10 (i2_4 + 1) hI1 _ _ _ hw (lv_sub hl [2, 0] rfl)
    exact hL4 N f_words_2 0 hz4 _ _ _ hw (lv_sub hl [1, 0] rfl)
  have hJ11 : ∀ (x_width_11 : Int32) (f_words_11 : Nat → Int64), J_X8_pack_66 N x_bucketMany x_width_11 f_shift f_words_11 = some x → ∀ (H : Heap) (locs : List Loc) (ls : Array Slot), kk_wd G A s.heap [(a0, .inr (8, [.ref a1, .int x_many, .int x_built, .int x_seed, .int x_graphSeed, .int x_bits, .int x_bucketMany, .int x_width_11, .ref a2, .ref a3, .ref a4, .ref a5, .ref a6, .ref a7, .ref a8, .ref a9, .ref a10, .ref a11, .ref a12, .int x_thrown])), (a3, .inl (cI, 120, .inl f_shift)), (a9, .inl (cJ, 20, .inr (.inl f_words_11)))] H locs → lv_has ls 5 [(0, .ref a0)] → W p l e (kk_rm 0 0 0 0) s m ([.ref a0] : List Value).toArray below meth c H locs 0 0 Q (F0 m 66 ls []) := by
    intro x_width_11 f_words_11 hF0 H locs ls hw hl
    unfold J_X8_pack_66 at hF0
    refine lv_iconst (v := 0) hx hb dX8_pack_66 (by decide) ?_
    refine lv_istore_n (lv' := [(2, .int 0), (0, .ref a0)]) hx hb dX8_pack_67 rfl hl (by decide) rfl (fun ls hl => ?_)
    obtain ⟨z12, hz13, hF0⟩ := kk_bind hF0
    have hL13 : ∀ (n13 : Nat) (f_words_13 : Nat → Int64) (i2_13 : Int32), kk_iter (fun (σ : ((Nat → Int64) × Int32)) => L_X8_pack_68 N σ.1 σ.2) n13 (f_words_13, i2_13) = some z12 → ∀ (H : Heap) (locs : List Loc) (ls : Array Slot), kk_wd G A s.heap [(a0, .inr (8, [.ref a1, .int x_many, .int x_built, .int x_seed, .int x_graphSeed, .int x_bits, .int x_bucketMany, .int x_width_11, .ref a2, .ref a3, .ref a4, .ref a5, .ref a6, .ref a7, .ref a8, .ref a9, .ref a10, .ref a11, .ref a12, .int x_thrown])), (a3, .inl (cI, 120, .inl f_shift)), (a9, .inl (cJ, 20, .inr (.inl f_words_13)))] H locs → lv_has ls 5 [(0, .ref a0), (2, .int i2_13)] → W p l e (kk_rm 0 0 0 0) s m ([.ref a0] : List Value).toArray below meth c H locs 0 0 Q (F0 m 68 ls []) := by
      intro n13
      induction n13 with
      | zero => intro f_words_13 i2_13 h; exact kk_iter0 h
      | succ n13 ih13 =>
        intro f_words_13 i2_13 hq H locs ls hw hl
        obtain ⟨y13, hF1, hI1⟩ := kk_iterS hq
        have hF1 : L_X8_pack_68 N f_words_13 i2_13 = some y13 := hF1
        unfold L_X8_pack_68 at hF1
        refine lv_iload_n hx hb dX8_pack_68 rfl (lv_at hl 1 rfl) ?_
        refine lv_bipush (v := 20) hx hb dX8_pack_69 (by decide) ?_
        refine lv_icmp_ge (tgt := 87) hx hb dX8_pack_71 (by decide) (fun c14 => ?_) (fun c14 => ?_)
        · have hF1 := (if_pos c14).symm.trans hF1
          have hy := Option.some.inj hF1
          subst hy
          have hz := Option.some.inj hI1
          subst hz
          exact hJ2 x_width_11 f_words_13 hF0 _ _ _ hw (lv_sub hl [0] rfl)
        · have hF1 := (if_neg c14).symm.trans hF1
          refine lv_aload_n hx hb dX8_pack_74 rfl (lv_at hl 0 rfl) ?_
          refine kk_get (T := TX8) F hw ui_X8_pack_X8 0 rfl rfl 15 (by decide) m_X8_pack_Cond_fieldLink_RX8_34_PerfectPewModel_words_J_ rfl dX8_pack_75 ?_
          refine lv_iload_n hx hb dX8_pack_78 rfl (lv_at hl 1 rfl) ?_
          refine lv_lconst (v := 0) hx hb dX8_pack_79 (by decide) ?_
          obtain ⟨w15, ew15, hF1⟩ := kk_bind hF1
          refine kk_last F hw 2 rfl ew15 dX8_pack_80 (fun H locs hw => ?_)
          have hw : kk_wd G A s.heap [(a0, .inr (8, [.ref a1, .int x_many, .int x_built, .int x_seed, .int x_graphSeed, .int x_bits, .int x_bucketMany, .int x_width_11, .ref a2, .ref a3, .ref a4, .ref a5, .ref a6, .ref a7, .ref a8, .ref a9, .ref a10, .ref a11, .ref a12, .int x_thrown])), (a3, .inl (cI, 120, .inl f_shift)), (a9, .inl (cJ, 20, .inr (.inl w15)))] H locs := hw
          refine lv_iinc (v := (i2_13 + 1)) (lv' := [(2, .int (i2_13 + 1)), (0, .ref a0)]) hx hb dX8_pack_81 hl (k := 1) rfl rfl (by decide) rfl (fun ls hl => ?_)
          refine lv_goto (tgt := 68) hx hb dX8_pack_84 (by decide) ?_
          have hy := Option.some.inj hF1
          subst hy
          exact ih13 w15 (i2_13 + 1) hI1 _ _ _ hw (lv_sub hl [1, 0] rfl)
    exact hL13 N f_words_11 0 hz13 _ _ _ hw (lv_sub hl [1, 0] rfl)
  have hJ16 : ∀ (x_width_16 : Int32) (f_words_16 : Nat → Int64) (i1_16 : Int32), J_X8_pack_39 N x_bucketMany f_shift f_words_16 i1_16 = some x → ∀ (H : Heap) (locs : List Loc) (ls : Array Slot), kk_wd G A s.heap [(a0, .inr (8, [.ref a1, .int x_many, .int x_built, .int x_seed, .int x_graphSeed, .int x_bits, .int x_bucketMany, .int x_width_16, .ref a2, .ref a3, .ref a4, .ref a5, .ref a6, .ref a7, .ref a8, .ref a9, .ref a10, .ref a11, .ref a12, .int x_thrown])), (a3, .inl (cI, 120, .inl f_shift)), (a9, .inl (cJ, 20, .inr (.inl f_words_16)))] H locs → lv_has ls 5 [(0, .ref a0), (1, .int i1_16)] → W p l e (kk_rm 0 0 0 0) s m ([.ref a0] : List Value).toArray below meth c H locs 0 0 Q (F0 m 39 ls []) := by
    intro x_width_16 f_words_16 i1_16 hF0 H locs ls hw hl
    unfold J_X8_pack_39 at hF0
    refine lv_aload_n hx hb dX8_pack_39 rfl (lv_at hl 0 rfl) ?_
    refine lv_iconst (v := 0) hx hb dX8_pack_40 (by decide) ?_
    refine kk_put F hw ui_X8_pack_X8 tyX8 tyX8_ok nmX8 0 rfl rfl 7 (by decide) m_X8_pack_Cond_fieldLink_RX8_152_PerfectPewModel_width_I_ rfl rfl rfl (Nat.le_of_ble_eq_true rfl) dX8_pack_41 (fun H locs hw => ?_)
    have hw : kk_wd G A s.heap [(a0, .inr (8, [.ref a1, .int x_many, .int x_built, .int x_seed, .int x_graphSeed, .int x_bits, .int x_bucketMany, .int 0, .ref a2, .ref a3, .ref a4, .ref a5, .ref a6, .ref a7, .ref a8, .ref a9, .ref a10, .ref a11, .ref a12, .int x_thrown])), (a3, .inl (cI, 120, .inl f_shift)), (a9, .inl (cJ, 20, .inr (.inl f_words_16)))] H locs := hw
    obtain ⟨z17, hz18, hF0⟩ := kk_bind hF0
    have hL18 : ∀ (n18 : Nat) (x_width_18 : Int32), kk_iter (fun (σ : Int32) => L_X8_pack_44 N i1_16 σ) n18 x_width_18 = some z17 → ∀ (H : Heap) (locs : List Loc) (ls : Array Slot), kk_wd G A s.heap [(a0, .inr (8, [.ref a1, .int x_many, .int x_built, .int x_seed, .int x_graphSeed, .int x_bits, .int x_bucketMany, .int x_width_18, .ref a2, .ref a3, .ref a4, .ref a5, .ref a6, .ref a7, .ref a8, .ref a9, .ref a10, .ref a11, .ref a12, .int x_thrown])), (a3, .inl (cI, 120, .inl f_shift)), (a9, .inl (cJ, 20, .inr (.inl f_words_16)))] H locs → lv_has ls 5 [(0, .ref a0), (1, .int i1_16)] → W p l e (kk_rm 0 0 0 0) s m ([.ref a0] : List Value).toArray below meth c H locs 0 0 Q (F0 m 44 ls []) := by
      intro n18
      induction n18 with
      | zero => intro x_width_18 h; exact kk_iter0 h
      | succ n18 ih18 =>
        intro x_width_18 hq H locs ls hw hl
        obtain ⟨y18, hF1, hI1⟩ := kk_iterS hq
        have hF1 : L_X8_pack_44 N i1_16 x_width_18 = some y18 := hF1
        unfold L_X8_pack_44 at hF1
        refine lv_iload_n hx hb dX8_pack_44 rfl (lv_at hl 1 rfl) ?_
        refine lv_aload_n hx hb dX8_pack_45 rfl (lv_at hl 0 rfl) ?_
        refine kk_get (T := TX8) F hw ui_X8_pack_X8 0 rfl rfl 7 (by decide) m_X8_pack_Cond_fieldLink_RX8_152_PerfectPewModel_width_I_ rfl dX8_pack_46 ?_
        refine lv_ishr hx hb dX8_pack_49 ?_
        refine lv_if_le (tgt := 66) hx hb dX8_pack_50 (by decide) (fun c19 => ?_) (fun c19 => ?_)
        · have hF1 := (if_pos c19).symm.trans hF1
          have hy := Option.some.inj hF1
          subst hy
          have hz := Option.some.inj hI1
          subst hz
          exact hJ11 x_width_18 f_words_16 hF0 _ _ _ hw (lv_sub hl [0] rfl)
        · have hF1 := (if_neg c19).symm.trans hF1
          refine lv_aload_n hx hb dX8_pack_53 rfl (lv_at hl 0 rfl) ?_
          refine lv_dup hx hb dX8_pack_54 rfl ?_
          refine kk_get (T := TX8) F hw ui_X8_pack_X8 0 rfl rfl 7 (by decide) m_X8_pack_Cond_fieldLink_RX8_152_PerfectPewModel_width_I_ rfl dX8_pack_55 ?_
          refine lv_iconst (v := 1) hx hb dX8_pack_58 (by decide) ?_
          refine lv_iadd hx hb dX8_pack_59 ?_
          refine kk_put F hw ui_X8_pack_X8 tyX8 tyX8_ok nmX8 0 rfl rfl 7 (by decide) m_X8_pack_Cond_fieldLink_RX8_152_PerfectPewModel_width_I_ rfl rfl rfl (Nat.le_of_ble_eq_true rfl) dX8_pack_60 (fun H locs hw => ?_)
          have hw : kk_wd G A s.heap [(a0, .inr (8, [.ref a1, .int x_many, .int x_built, .int x_seed, .int x_graphSeed, .int x_bits, .int x_bucketMany, .int (x_width_18 + 1), .ref a2, .ref a3, .ref a4, .ref a5, .ref a6, .ref a7, .ref a8, .ref a9, .ref a10, .ref a11, .ref a12, .int x_thrown])), (a3, .inl (cI, 120, .inl f_shift)), (a9, .inl (cJ, 20, .inr (.inl f_words_16)))] H locs := hw
          refine lv_goto (tgt := 44) hx hb dX8_pack_63 (by decide) ?_
          have hy := Option.some.inj hF1
          subst hy
          exact ih18 (x_width_18 + 1) hI1 _ _ _ hw (lv_sub hl [0, 1] rfl)
    exact hL18 N 0 hz18 _ _ _ hw (lv_sub hl [0, 1] rfl)
  refine lv_iconst (v := 1) hx hb dX8_pack_0 (by decide) ?_
  refine lv_istore_n (lv' := [(1, .int 1), (0, .ref a0)]) hx hb dX8_pack_1 rfl hl (by decide) rfl (fun ls hl => ?_)
  refine lv_iconst (v := 0) hx hb dX8_pack_2 (by decide) ?_
  refine lv_istore_n (lv' := [(2, .int 0), (1, .int 1), (0, .ref a0)]) hx hb dX8_pack_3 rfl hl (by decide) rfl (fun ls hl => ?_)
  obtain ⟨z20, hz21, hF0⟩ := kk_bind hF0
  have hL21 : ∀ (n21 : Nat) (i1_21 : Int32) (i2_21 : Int32), kk_iter (fun (σ : (Int32 × Int32)) => L_X8_pack_4 N x_bucketMany f_shift σ.1 σ.2) n21 (i1_21, i2_21) = some z20 → ∀ (H : Heap) (locs : List Loc) (ls : Array Slot), kk_wd G A s.heap [(a0, .inr (8, [.ref a1, .int x_many, .int x_built, .int x_seed, .int x_graphSeed, .int x_bits, .int x_bucketMany, .int x_width, .ref a2, .ref a3, .ref a4, .ref a5, .ref a6, .ref a7, .ref a8, .ref a9, .ref a10, .ref a11, .ref a12, .int x_thrown])), (a3, .inl (cI, 120, .inl f_shift)), (a9, .inl (cJ, 20, .inr (.inl f_words)))] H locs → lv_has ls 5 [(0, .ref a0), (1, .int i1_21), (2, .int i2_21)] → W p l e (kk_rm 0 0 0 0) s m ([.ref a0] : List Value).toArray below meth c H locs 0 0 Q (F0 m 4 ls []) := by
    intro n21
    induction n21 with
    | zero => intro i1_21 i2_21 h; exact kk_iter0 h
    | succ n21 ih21 =>
      intro i1_21 i2_21 hq H locs ls hw hl
      obtain ⟨y21, hF1, hI1⟩ := kk_iterS hq
      have hF1 : L_X8_pack_4 N x_bucketMany f_shift i1_21 i2_21 = some y21 := hF1
      unfold L_X8_pack_4 at hF1
      have hJ22 : ∀ (i2_22 : Int32) (s0_22 : Int32), J_X8_pack_32 N i2_22 s0_22 = some y21 → ∀ (H : Heap) (locs : List Loc) (ls : Array Slot), kk_wd G A s.heap [(a0, .inr (8, [.ref a1, .int x_many, .int x_built, .int x_seed, .int x_graphSeed, .int x_bits, .int x_bucketMany, .int x_width, .ref a2, .ref a3, .ref a4, .ref a5, .ref a6, .ref a7, .ref a8, .ref a9, .ref a10, .ref a11, .ref a12, .int x_thrown])), (a3, .inl (cI, 120, .inl f_shift)), (a9, .inl (cJ, 20, .inr (.inl f_words)))] H locs → lv_has ls 5 [(0, .ref a0), (2, .int i2_22)] → W p l e (kk_rm 0 0 0 0) s m ([.ref a0] : List Value).toArray below meth c H locs 0 0 Q (F0 m 32 ls [.int s0_22]) := by
        intro i2_22 s0_22 hF1 H locs ls hw hl
        unfold J_X8_pack_32 at hF1
        refine lv_istore_n (lv' := [(1, .int s0_22), (0, .ref a0), (2, .int i2_22)]) hx hb dX8_pack_32 rfl hl (by decide) rfl (fun ls hl => ?_)
        refine lv_iinc (v := (i2_22 + 1)) (lv' := [(2, .int (i2_22 + 1)), (1, .int s0_22), (0, .ref a0)]) hx hb dX8_pack_33 hl (k := 2) rfl rfl (by decide) rfl (fun ls hl => ?_)
        refine lv_goto (tgt := 4) hx hb dX8_pack_36 (by decide) ?_
        have hy := Option.some.inj hF1
        subst hy
        exact ih21 s0_22 (i2_22 + 1) hI1 _ _ _ hw (lv_sub hl [2, 1, 0] rfl)
      refine lv_iload_n hx hb dX8_pack_4 rfl (lv_at hl 2 rfl) ?_
      refine lv_aload_n hx hb dX8_pack_5 rfl (lv_at hl 0 rfl) ?_
      refine kk_get (T := TX8) F hw ui_X8_pack_X8 0 rfl rfl 6 (by decide) m_X8_pack_Cond_fieldLink_RX8_149_PerfectPewModel_bucketMany_I_ rfl dX8_pack_6 ?_
      refine lv_icmp_ge (tgt := 39) hx hb dX8_pack_9 (by decide) (fun c23 => ?_) (fun c23 => ?_)
      · have hF1 := (if_pos c23).symm.trans hF1
        have hy := Option.some.inj hF1
        subst hy
        have hz := Option.some.inj hI1
        subst hz
        exact hJ16 x_width f_words i1_21 hF0 _ _ _ hw (lv_sub hl [0, 1] rfl)
      · have hF1 := (if_neg c23).symm.trans hF1
        refine lv_aload_n hx hb dX8_pack_12 rfl (lv_at hl 0 rfl) ?_
        refine kk_get (T := TX8) F hw ui_X8_pack_X8 0 rfl rfl 9 (by decide) m_X8_pack_Cond_fieldLink_RX8_16_PerfectPewModel_shift_I_ rfl dX8_pack_13 ?_
        refine lv_iload_n hx hb dX8_pack_16 rfl (lv_at hl 2 rfl) ?_
        obtain ⟨v24, ev24, hF1⟩ := kk_bind hF1
        refine kk_iald F hw 1 rfl ev24 dX8_pack_17 ?_
        refine lv_iload_n hx hb dX8_pack_18 rfl (lv_at hl 1 rfl) ?_
        refine lv_icmp_le (tgt := 31) hx hb dX8_pack_19 (by decide) (fun c25 => ?_) (fun c25 => ?_)
        · have hF1 := (if_pos c25).symm.trans hF1
          refine lv_iload_n hx hb dX8_pack_31 rfl (lv_at hl 1 rfl) ?_
          exact hJ22 i2_21 i1_21 hF1 _ _ _ hw (lv_sub hl [0, 2] rfl)
        · have hF1 := (if_neg c25).symm.trans hF1
          refine lv_aload_n hx hb dX8_pack_22 rfl (lv_at hl 0 rfl) ?_
          refine kk_get (T := TX8) F hw ui_X8_pack_X8 0 rfl rfl 9 (by decide) m_X8_pack_Cond_fieldLink_RX8_16_PerfectPewModel_shift_I_ rfl dX8_pack_23 ?_
          refine lv_iload_n hx hb dX8_pack_26 rfl (lv_at hl 2 rfl) ?_
          obtain ⟨v26, ev26, hF1⟩ := kk_bind hF1
          refine kk_iald F hw 1 rfl ev26 dX8_pack_27 ?_
          refine lv_goto (tgt := 32) hx hb dX8_pack_28 (by decide) ?_
          exact hJ22 i2_21 v26 hF1 _ _ _ hw (lv_sub hl [0, 2] rfl)
  exact hL21 N 1 0 hz21 _ _ _ hw (lv_sub hl [2, 1, 0] rfl)
theorem ui_X8_build_X8 : ∀ w ∈ u_ws RX8 TX8 20, w ∈ wsX8_build := by decide +kernel
theorem m_X8_build_Cond_fieldLink_RX8_162_PerfectPewModel_seed_I_ : Cond.fieldLink RX8 162 "PerfectPewModel" "seed" "I" ∈ wsX8_build := by decide +kernel
theorem m_X8_build_Cond_fieldLink_RX8_99_PerfectPewModel_many_I_ : Cond.fieldLink RX8 99 "PerfectPewModel" "many" "I" ∈ wsX8_build := by decide +kernel
theorem m_X8_build_Cond_fieldLink_RX8_19_PerfectPewModel_owner_I_ : Cond.fieldLink RX8 19 "PerfectPewModel" "owner" "[I" ∈ wsX8_build := by decide +kernel
theorem m_X8_build_Cond_fieldLink_RX8_31_PerfectPewModel_triedOwner_I_ : Cond.fieldLink RX8 31 "PerfectPewModel" "triedOwner" "[I" ∈ wsX8_build := by decide +kernel
theorem m_X8_build_Cond_fieldLink_RX8_22_PerfectPewModel_prints_I_ : Cond.fieldLink RX8 22 "PerfectPewModel" "prints" "[I" ∈ wsX8_build := by decide +kernel
theorem m_X8_build_Cond_fieldLink_RX8_114_PerfectPewModel_built_Z_ : Cond.fieldLink RX8 114 "PerfectPewModel" "built" "Z" ∈ wsX8_build := by decide +kernel
theorem m_X8_build_Cond_fieldLink_RX8_165_PerfectPewModel_graphSeed_I_ : Cond.fieldLink RX8 165 "PerfectPewModel" "graphSeed" "I" ∈ wsX8_build := by decide +kernel
theorem m_X8_build_Cond_fieldLink_RX8_168_PerfectPewModel_bits_I_ : Cond.fieldLink RX8 168 "PerfectPewModel" "bits" "I" ∈ wsX8_build := by decide +kernel
theorem m_X8_build_Cond_fieldLink_RX8_149_PerfectPewModel_bucketMany_I_ : Cond.fieldLink RX8 149 "PerfectPewModel" "bucketMany" "I" ∈ wsX8_build := by decide +kernel
theorem m_X8_build_Cond_fieldLink_RX8_13_PerfectPewModel_sizes_I_ : Cond.fieldLink RX8 13 "PerfectPewModel" "sizes" "[I" ∈ wsX8_build := by decide +kernel
theorem m_X8_build_Cond_fieldLink_RX8_16_PerfectPewModel_shift_I_ : Cond.fieldLink RX8 16 "PerfectPewModel" "shift" "[I" ∈ wsX8_build := by decide +kernel
theorem m_X8_build_Cond_fieldLink_RX8_28_PerfectPewModel_triedShift_I_ : Cond.fieldLink RX8 28 "PerfectPewModel" "triedShift" "[I" ∈ wsX8_build := by decide +kernel
theorem m_X8_build_Cond_fieldLink_RX8_47_PerfectPewModel_thrown_I_ : Cond.fieldLink RX8 47 "PerfectPewModel" "thrown" "I" ∈ wsX8_build := by decide +kernel
set_option maxRecDepth 100000 in
set_option maxHeartbeats 4000000 in
theorem c_X8_build (l : Launch) (G : va_G) (cI cJ : ClassId) (ad : Nat → Nat) (a0 a1 a2 a3 a4 a5 a6 a7 a8 a9 a10 a11 a12 : Nat) (x_many : Int32) (x_built : Int32) (x_seed : Int32) (x_graphSeed : Int32) (x_bits : Int32) (x_bucketMany : Int32) (x_width : Int32) (x_thrown : Int32) (f_keys : Nat → Int32) (f_sizes : Nat → Int32) (f_shift : Nat → Int32) (f_owner : Nat → Int32) (f_prints : Nat → Int32) (f_some : Nat → Int32) (f_triedShift : Nat → Int32) (f_triedOwner : Nat → Int32) (f_words : Nat → Int64) (f_values : Nat → Int32) (f_roots : Nat → Int32) (f_ends : Nat → Int32) (i1 : Int32) (i2 : Int32) (N : Nat) (x : (Int32 × Int32 × Int32 × Int32 × Int32 × Int32 × Int32 × Int32 × (Nat → Int32) × (Nat → Int32) × (Nat → Int32) × (Nat → Int32) × (Nat → Int32) × (Nat → Int32) × (Nat → Int32) × (Nat → Int64) × (Nat → Int32) × (Nat → Int32) × (Nat → Int32))) (hF0 : F_X8_build N x_many x_built x_seed x_graphSeed x_bits x_bucketMany x_width x_thrown f_keys f_sizes f_shift f_owner f_prints f_some f_triedShift f_triedOwner f_words f_values f_roots f_ends i1 i2 = some x) : kk_I l yX8_build wsX8_build 7 0 0 166 [.ref a0, .int i1, .int i2] G cI cJ ad [(a0, .inr (8, [.ref a1, .int x_many, .int x_built, .int x_seed, .int x_graphSeed, .int x_bits, .int x_bucketMany, .int x_width, .ref a2, .ref a3, .ref a4, .ref a5, .ref a6, .ref a7, .ref a8, .ref a9, .ref a10, .ref a11, .ref a12, .int x_thrown])), (a1, .inl (cI, 120, .inl f_keys)), (a2, .inl (cI, 120, .inl f_sizes)), (a3, .inl (cI, 120, .inl f_shift)), (a4, .inl (cI, 120, .inl f_owner)), (a5, .inl (cI, 120, .inl f_prints)), (a6, .inl (cI, 120, .inl f_some)), (a7, .inl (cI, 120, .inl f_triedShift)), (a8, .inl (cI, 120, .inl f_triedOwner)), (a9, .inl (cJ, 20, .inr (.inl f_words))), (a10, .inl (cI, 360, .inl f_values)), (a11, .inl (cI, 360, .inl f_roots)), (a12, .inl (cI, 240, .inl f_ends))] x.1 [(a0, .inr (8, [.ref a1, .int x_many, .int x.2.1, .int x.2.2.1, .int x.2.2.2.1, .int x.2.2.2.2.1, .int x.2.2.2.2.2.1, .int x.2.2.2.2.2.2.1, .ref a2, .ref a3, .ref a4, .ref a5, .ref a6, .ref a7, .ref a8, .ref a9, .ref a10, .ref a11, .ref a12, .int x.2.2.2.2.2.2.2.1])), (a1, .inl (cI, 120, .inl f_keys)), (a2, .inl (cI, 120, .inl x.2.2.2.2.2.2.2.2.1)), (a3, .inl (cI, 120, .inl x.2.2.2.2.2.2.2.2.2.1)), (a4, .inl (cI, 120, .inl x.2.2.2.2.2.2.2.2.2.2.1)), (a5, .inl (cI, 120, .inl x.2.2.2.2.2.2.2.2.2.2.2.1)), (a6, .inl (cI, 120, .inl x.2.2.2.2.2.2.2.2.2.2.2.2.1)), (a7, .inl (cI, 120, .inl x.2.2.2.2.2.2.2.2.2.2.2.2.2.1)), (a8, .inl (cI, 120, .inl x.2.2.2.2.2.2.2.2.2.2.2.2.2.2.1)), (a9, .inl (cJ, 20, .inr (.inl x.2.2.2.2.2.2.2.2.2.2.2.2.2.2.2.1))), (a10, .inl (cI, 360, .inl x.2.2.2.2.2.2.2.2.2.2.2.2.2.2.2.2.1)), (a11, .inl (cI, 360, .inl x.2.2.2.2.2.2.2.2.2.2.2.2.2.2.2.2.2.1)), (a12, .inl (cI, 240, .inl x.2.2.2.2.2.2.2.2.2.2.2.2.2.2.2.2.2.2))] := by
  refine kk_ofI (cc := cX8_build) (maxL := 7) (by decide) rfl (Nat.le_of_ble_eq_true rfl) ?_
  intro p e s m below meth c A Q ls H locs hx hb hml hown hts hE hw hl hret
  have F : kk_at p m c cX8_build 7 s _ wsX8_build RX8 G cI cJ ad A := ⟨⟨hx, hb, hml, hown, hts⟩, hE⟩
  have hl : lv_has ls 7 [(0, .ref a0), (1, .int i1), (2, .int i2)] := hl
  unfold F_X8_build at hF0
  have hJ1 : ∀ (x_built_1 : Int32) (x_seed_1 : Int32) (x_graphSeed_1 : Int32) (x_bits_1 : Int32) (x_bucketMany_1 : Int32) (x_width_1 : Int32) (x_thrown_1 : Int32) (f_sizes_1 : Nat → Int32) (f_shift_1 : Nat → Int32) (f_owner_1 : Nat → Int32) (f_prints_1 : Nat → Int32) (f_some_1 : Nat → Int32) (f_triedShift_1 : Nat → Int32) (f_triedOwner_1 : Nat → Int32) (f_words_1 : Nat → Int64) (f_values_1 : Nat → Int32) (f_roots_1 : Nat → Int32) (f_ends_1 : Nat → Int32), J_X8_build_270 N x_many x_built_1 x_seed_1 x_graphSeed_1 x_bits_1 x_bucketMany_1 x_width_1 x_thrown_1 f_sizes_1 f_shift_1 f_owner_1 f_prints_1 f_some_1 f_triedShift_1 f_triedOwner_1 f_words_1 f_values_1 f_roots_1 f_ends_1 = some x → ∀ (H : Heap) (locs : List Loc) (ls : Array Slot), kk_wd G A s.heap [(a0, .inr (8, [.ref a1, .int x_many, .int x_built_1, .int x_seed_1, .int x_graphSeed_1, .int x_bits_1, .int x_bucketMany_1, .int x_width_1, .ref a2, .ref a3, .ref a4, .ref a5, .ref a6, .ref a7, .ref a8, .ref a9, .ref a10, .ref a11, .ref a12, .int x_thrown_1])), (a1, .inl (cI, 120, .inl f_keys)), (a2, .inl (cI, 120, .inl f_sizes_1)), (a3, .inl (cI, 120, .inl f_shift_1)), (a4, .inl (cI, 120, .inl f_owner_1)), (a5, .inl (cI, 120, .inl f_prints_1)), (a6, .inl (cI, 120, .inl f_some_1)), (a7, .inl (cI, 120, .inl f_triedShift_1)), (a8, .inl (cI, 120, .inl f_triedOwner_1)), (a9, .inl (cJ, 20, .inr (.inl f_words_1))), (a10, .inl (cI, 360, .inl f_values_1)), (a11, .inl (cI, 360, .inl f_roots_1)), (a12, .inl (cI, 240, .inl f_ends_1))] H locs → lv_has ls 7 [(0, .ref a0)] → W p l e (kk_rm 7 0 0 166) s m ([.ref a0, .int i1, .int i2] : List Value).toArray below meth c H locs 0 0 Q (F0 m 270 ls []) := by
    intro x_built_1 x_seed_1 x_graphSeed_1 x_bits_1 x_bucketMany_1 x_width_1 x_thrown_1 f_sizes_1 f_shift_1 f_owner_1 f_prints_1 f_some_1 f_triedShift_1 f_triedOwner_1 f_words_1 f_values_1 f_roots_1 f_ends_1 hF0 H locs ls hw hl
    unfold J_X8_build_270 at hF0
    refine lv_aload_n hx hb dX8_build_270 rfl (lv_at hl 0 rfl) ?_
    obtain ⟨v2, ev2, hF0⟩ := kk_bind hF0
    refine kk_callV 0 0 hw (kk_runV (As := []) (rest := []) F hw hl.1 (c_X8_layValues l G cI cJ ad a0 a1 a2 a3 a4 a5 a6 a7 a8 a9 a10 a11 a12 x_many x_built_1 x_seed_1 x_graphSeed_1 x_bits_1 x_bucketMany_1 x_width_1 x_thrown_1 f_values_1 f_roots_1 f_ends_1 N v2 ev2 H.size) gX8_build_X8_layValues rfl ⟨rfl, md_X8_layValues⟩ ⟨Nat.le_of_ble_eq_true rfl, Nat.le_of_ble_eq_true rfl⟩ ⟨Nat.le_of_ble_eq_true rfl, Nat.le_of_ble_eq_true rfl⟩ 0 8 rfl rfl rfl rfl (Nat.le_of_ble_eq_true rfl) dX8_build_271) ⟨rfl, rfl⟩ [0, 10, 11, 12] (by decide) rfl rfl (fun H locs hw => ?_)
    have hw : kk_wd G A s.heap [(a0, .inr (8, [.ref a1, .int x_many, .int x_built_1, .int x_seed_1, .int x_graphSeed_1, .int x_bits_1, .int x_bucketMany_1, .int x_width_1, .ref a2, .ref a3, .ref a4, .ref a5, .ref a6, .ref a7, .ref a8, .ref a9, .ref a10, .ref a11, .ref a12, .int x_thrown_1])), (a1, .inl (cI, 120, .inl f_keys)), (a2, .inl (cI, 120, .inl f_sizes_1)), (a3, .inl (cI, 120, .inl f_shift_1)), (a4, .inl (cI, 120, .inl f_owner_1)), (a5, .inl (cI, 120, .inl f_prints_1)), (a6, .inl (cI, 120, .inl f_some_1)), (a7, .inl (cI, 120, .inl f_triedShift_1)), (a8, .inl (cI, 120, .inl f_triedOwner_1)), (a9, .inl (cJ, 20, .inr (.inl f_words_1))), (a10, .inl (cI, 360, .inl v2)), (a11, .inl (cI, 360, .inl f_roots_1)), (a12, .inl (cI, 240, .inl f_ends_1))] H locs := hw
    refine lv_aload_n hx hb dX8_build_274 rfl (lv_at hl 0 rfl) ?_
    obtain ⟨v3, ev3, hF0⟩ := kk_bind hF0
    refine kk_callV 0 0 hw (kk_runV (As := []) (rest := []) F hw hl.1 (c_X8_pack l G cI cJ ad a0 a1 a2 a3 a4 a5 a6 a7 a8 a9 a10 a11 a12 x_many x_built_1 x_seed_1 x_graphSeed_1 x_bits_1 x_bucketMany_1 x_width_1 x_thrown_1 f_shift_1 f_words_1 N v3 ev3 H.size) gX8_build_X8_pack rfl ⟨rfl, md_X8_pack⟩ ⟨Nat.le_of_ble_eq_true rfl, Nat.le_of_ble_eq_true rfl⟩ ⟨Nat.le_of_ble_eq_true rfl, Nat.le_of_ble_eq_true rfl⟩ 0 8 rfl rfl rfl rfl (Nat.le_of_ble_eq_true rfl) dX8_build_275) ⟨rfl, rfl⟩ [0, 3, 9] (by decide) rfl rfl (fun H locs hw => ?_)
    have hw : kk_wd G A s.heap [(a0, .inr (8, [.ref a1, .int x_many, .int x_built_1, .int x_seed_1, .int x_graphSeed_1, .int x_bits_1, .int x_bucketMany_1, .int v3.1, .ref a2, .ref a3, .ref a4, .ref a5, .ref a6, .ref a7, .ref a8, .ref a9, .ref a10, .ref a11, .ref a12, .int x_thrown_1])), (a1, .inl (cI, 120, .inl f_keys)), (a2, .inl (cI, 120, .inl f_sizes_1)), (a3, .inl (cI, 120, .inl f_shift_1)), (a4, .inl (cI, 120, .inl f_owner_1)), (a5, .inl (cI, 120, .inl f_prints_1)), (a6, .inl (cI, 120, .inl f_some_1)), (a7, .inl (cI, 120, .inl f_triedShift_1)), (a8, .inl (cI, 120, .inl f_triedOwner_1)), (a9, .inl (cJ, 20, .inr (.inl v3.2))), (a10, .inl (cI, 360, .inl v2)), (a11, .inl (cI, 360, .inl f_roots_1)), (a12, .inl (cI, 240, .inl f_ends_1))] H locs := hw
    refine lv_aload_n hx hb dX8_build_278 rfl (lv_at hl 0 rfl) ?_
    refine kk_get (T := TX8) F hw ui_X8_build_X8 0 rfl rfl 3 (by decide) m_X8_build_Cond_fieldLink_RX8_162_PerfectPewModel_seed_I_ rfl dX8_build_279 ?_
    have hy := Option.some.inj hF0
    subst hy
    exact hret dX8_build_282 (by decide) (by decide) hw
  have hJ4 : ∀ (x_built_4 : Int32) (x_seed_4 : Int32) (x_graphSeed_4 : Int32) (x_bits_4 : Int32) (x_bucketMany_4 : Int32) (x_width_4 : Int32) (x_thrown_4 : Int32) (f_sizes_4 : Nat → Int32) (f_shift_4 : Nat → Int32) (f_owner_4 : Nat → Int32) (f_prints_4 : Nat → Int32) (f_some_4 : Nat → Int32) (f_triedShift_4 : Nat → Int32) (f_triedOwner_4 : Nat → Int32) (f_words_4 : Nat → Int64) (f_values_4 : Nat → Int32) (f_roots_4 : Nat → Int32) (f_ends_4 : Nat → Int32), J_X8_build_220 N x_many x_built_4 x_seed_4 x_graphSeed_4 x_bits_4 x_bucketMany_4 x_width_4 x_thrown_4 f_sizes_4 f_shift_4 f_owner_4 f_prints_4 f_some_4 f_triedShift_4 f_triedOwner_4 f_words_4 f_values_4 f_roots_4 f_ends_4 = some x → ∀ (H : Heap) (locs : List Loc) (ls : Array Slot), kk_wd G A s.heap [(a0, .inr (8, [.ref a1, .int x_many, .int x_built_4, .int x_seed_4, .int x_graphSeed_4, .int x_bits_4, .int x_bucketMany_4, .int x_width_4, .ref a2, .ref a3, .ref a4, .ref a5, .ref a6, .ref a7, .ref a8, .ref a9, .ref a10, .ref a11, .ref a12, .int x_thrown_4])), (a1, .inl (cI, 120, .inl f_keys)), (a2, .inl (cI, 120, .inl f_sizes_4)), (a3, .inl (cI, 120, .inl f_shift_4)), (a4, .inl (cI, 120, .inl f_owner_4)), (a5, .inl (cI, 120, .inl f_prints_4)), (a6, .inl (cI, 120, .inl f_some_4)), (a7, .inl (cI, 120, .inl f_triedShift_4)), (a8, .inl (cI, 120, .inl f_triedOwner_4)), (a9, .inl (cJ, 20, .inr (.inl f_words_4))), (a10, .inl (cI, 360, .inl f_values_4)), (a11, .inl (cI, 360, .inl f_roots_4)), (a12, .inl (cI, 240, .inl f_ends_4))] H locs → lv_has ls 7 [(0, .ref a0)] → W p l e (kk_rm 7 0 0 166) s m ([.ref a0, .int i1, .int i2] : List Value).toArray below meth c H locs 0 0 Q (F0 m 220 ls []) := by
    intro x_built_4 x_seed_4 x_graphSeed_4 x_bits_4 x_bucketMany_4 x_width_4 x_thrown_4 f_sizes_4 f_shift_4 f_owner_4 f_prints_4 f_some_4 f_triedShift_4 f_triedOwner_4 f_words_4 f_values_4 f_roots_4 f_ends_4 hF0 H locs ls hw hl
    unfold J_X8_build_220 at hF0
    refine lv_iconst (v := 0) hx hb dX8_build_220 (by decide) ?_
    refine lv_istore (lv' := [(6, .int 0), (0, .ref a0)]) hx hb dX8_build_221 hl (by decide) rfl (fun ls hl => ?_)
    obtain ⟨z5, hz6, hF0⟩ := kk_bind hF0
    have hL6 : ∀ (n6 : Nat) (f_owner_6 : Nat → Int32) (f_prints_6 : Nat → Int32) (i6_6 : Int32), kk_iter (fun (σ : ((Nat → Int32) × (Nat → Int32) × Int32)) => L_X8_build_223 N x_many x_seed_4 x_bits_4 f_triedOwner_4 σ.1 σ.2.1 σ.2.2) n6 (f_owner_6, f_prints_6, i6_6) = some z5 → ∀ (H : Heap) (locs : List Loc) (ls : Array Slot), kk_wd G A s.heap [(a0, .inr (8, [.ref a1, .int x_many, .int x_built_4, .int x_seed_4, .int x_graphSeed_4, .int x_bits_4, .int x_bucketMany_4, .int x_width_4, .ref a2, .ref a3, .ref a4, .ref a5, .ref a6, .ref a7, .ref a8, .ref a9, .ref a10, .ref a11, .ref a12, .int x_thrown_4])), (a1, .inl (cI, 120, .inl f_keys)), (a2, .inl (cI, 120, .inl f_sizes_4)), (a3, .inl (cI, 120, .inl f_shift_4)), (a4, .inl (cI, 120, .inl f_owner_6)), (a5, .inl (cI, 120, .inl f_prints_6)), (a6, .inl (cI, 120, .inl f_some_4)), (a7, .inl (cI, 120, .inl f_triedShift_4)), (a8, .inl (cI, 120, .inl f_triedOwner_4)), (a9, .inl (cJ, 20, .inr (.inl f_words_4))), (a10, .inl (cI, 360, .inl f_values_4)), (a11, .inl (cI, 360, .inl f_roots_4)), (a12, .inl (cI, 240, .inl f_ends_4))] H locs → lv_has ls 7 [(0, .ref a0), (6, .int i6_6)] → W p l e (kk_rm 7 0 0 166) s m ([.ref a0, .int i1, .int i2] : List Value).toArray below meth c H locs 0 0 Q (F0 m 223 ls []) := by
      intro n6
      induction n6 with
      | zero => intro f_owner_6 f_prints_6 i6_6 h; exact kk_iter0 h
      | succ n6 ih6 =>
        intro f_owner_6 f_prints_6 i6_6 hq H locs ls hw hl
        obtain ⟨y6, hF1, hI1⟩ := kk_iterS hq
        have hF1 : L_X8_build_223 N x_many x_seed_4 x_bits_4 f_triedOwner_4 f_owner_6 f_prints_6 i6_6 = some y6 := hF1
        unfold L_X8_build_223 at hF1
        refine lv_iload hx hb dX8_build_223 (lv_at hl 1 rfl) ?_
        refine lv_aload_n hx hb dX8_build_225 rfl (lv_at hl 0 rfl) ?_
        refine kk_get (T := TX8) F hw ui_X8_build_X8 0 rfl rfl 1 (by decide) m_X8_build_Cond_fieldLink_RX8_99_PerfectPewModel_many_I_ rfl dX8_build_226 ?_
        refine lv_icmp_ge (tgt := 270) hx hb dX8_build_229 (by decide) (fun c7 => ?_) (fun c7 => ?_)
        · have hF1 := (if_pos c7).symm.trans hF1
          have hy := Option.some.inj hF1
          subst hy
          have hz := Option.some.inj hI1
          subst hz
          exact hJ1 x_built_4 x_seed_4 x_graphSeed_4 x_bits_4 x_bucketMany_4 x_width_4 x_thrown_4 f_sizes_4 f_shift_4 f_owner_6 f_prints_6 f_some_4 f_triedShift_4 f_triedOwner_4 f_words_4 f_values_4 f_roots_4 f_ends_4 hF0 _ _ _ hw (lv_sub hl [0] rfl)
        · have hF1 := (if_neg c7).symm.trans hF1
          refine lv_aload_n hx hb dX8_build_232 rfl (lv_at hl 0 rfl) ?_
          refine kk_get (T := TX8) F hw ui_X8_build_X8 0 rfl rfl 10 (by decide) m_X8_build_Cond_fieldLink_RX8_19_PerfectPewModel_owner_I_ rfl dX8_build_233 ?_
          refine lv_iload hx hb dX8_build_236 (lv_at hl 1 rfl) ?_
          refine lv_aload_n hx hb dX8_build_238 rfl (lv_at hl 0 rfl) ?_
          refine kk_get (T := TX8) F hw ui_X8_build_X8 0 rfl rfl 14 (by decide) m_X8_build_Cond_fieldLink_RX8_31_PerfectPewModel_triedOwner_I_ rfl dX8_build_239 ?_
          refine lv_iload hx hb dX8_build_242 (lv_at hl 1 rfl) ?_
          obtain ⟨v8, ev8, hF1⟩ := kk_bind hF1
          refine kk_iald F hw 8 rfl ev8 dX8_build_244 ?_
          obtain ⟨w9, ew9, hF1⟩ := kk_bind hF1
          refine kk_iast F hw 4 rfl ew9 dX8_build_245 (fun H locs hw => ?_)
          have hw : kk_wd G A s.heap [(a0, .inr (8, [.ref a1, .int x_many, .int x_built_4, .int x_seed_4, .int x_graphSeed_4, .int x_bits_4, .int x_bucketMany_4, .int x_width_4, .ref a2, .ref a3, .ref a4, .ref a5, .ref a6, .ref a7, .ref a8, .ref a9, .ref a10, .ref a11, .ref a12, .int x_thrown_4])), (a1, .inl (cI, 120, .inl f_keys)), (a2, .inl (cI, 120, .inl f_sizes_4)), (a3, .inl (cI, 120, .inl f_shift_4)), (a4, .inl (cI, 120, .inl w9)), (a5, .inl (cI, 120, .inl f_prints_6)), (a6, .inl (cI, 120, .inl f_some_4)), (a7, .inl (cI, 120, .inl f_triedShift_4)), (a8, .inl (cI, 120, .inl f_triedOwner_4)), (a9, .inl (cJ, 20, .inr (.inl f_words_4))), (a10, .inl (cI, 360, .inl f_values_4)), (a11, .inl (cI, 360, .inl f_roots_4)), (a12, .inl (cI, 240, .inl f_ends_4))] H locs := hw
          refine lv_aload_n hx hb dX8_build_246 rfl (lv_at hl 0 rfl) ?_
          refine kk_get (T := TX8) F hw ui_X8_build_X8 0 rfl rfl 11 (by decide) m_X8_build_Cond_fieldLink_RX8_22_PerfectPewModel_prints_I_ rfl dX8_build_247 ?_
          refine lv_iload hx hb dX8_build_250 (lv_at hl 1 rfl) ?_
          refine lv_aload_n hx hb dX8_build_252 rfl (lv_at hl 0 rfl) ?_
          refine lv_aload_n hx hb dX8_build_253 rfl (lv_at hl 0 rfl) ?_
          refine kk_get (T := TX8) F hw ui_X8_build_X8 0 rfl rfl 10 (by decide) m_X8_build_Cond_fieldLink_RX8_19_PerfectPewModel_owner_I_ rfl dX8_build_254 ?_
          refine lv_iload hx hb dX8_build_257 (lv_at hl 1 rfl) ?_
          obtain ⟨v10, ev10, hF1⟩ := kk_bind hF1
          refine kk_iald F hw 4 rfl ev10 dX8_build_259 ?_
          obtain ⟨v11, ev11, hF1⟩ := kk_bind hF1
          refine kk_callI 0 0 hw (kk_runV (As := [.int v10]) (rest := [.int i6_6, .ref a5]) F hw hl.1 (c_X8_print l G cI cJ ad a0 a1 a2 a3 a4 a5 a6 a7 a8 a9 a10 a11 a12 x_many x_built_4 x_seed_4 x_graphSeed_4 x_bits_4 x_bucketMany_4 x_width_4 x_thrown_4 v10 N v11 ev11 H.size) gX8_build_X8_print rfl ⟨rfl, md_X8_print⟩ ⟨Nat.le_of_ble_eq_true rfl, Nat.le_of_ble_eq_true rfl⟩ ⟨Nat.le_of_ble_eq_true rfl, Nat.le_of_ble_eq_true rfl⟩ 0 8 rfl rfl rfl rfl (Nat.le_of_ble_eq_true rfl) dX8_build_260) ⟨rfl, rfl⟩ [0] (by decide) rfl rfl (fun H locs hw => ?_)
          have hw : kk_wd G A s.heap [(a0, .inr (8, [.ref a1, .int x_many, .int x_built_4, .int x_seed_4, .int x_graphSeed_4, .int x_bits_4, .int x_bucketMany_4, .int x_width_4, .ref a2, .ref a3, .ref a4, .ref a5, .ref a6, .ref a7, .ref a8, .ref a9, .ref a10, .ref a11, .ref a12, .int x_thrown_4])), (a1, .inl (cI, 120, .inl f_keys)), (a2, .inl (cI, 120, .inl f_sizes_4)), (a3, .inl (cI, 120, .inl f_shift_4)), (a4, .inl (cI, 120, .inl w9)), (a5, .inl (cI, 120, .inl f_prints_6)), (a6, .inl (cI, 120, .inl f_some_4)), (a7, .inl (cI, 120, .inl f_triedShift_4)), (a8, .inl (cI, 120, .inl f_triedOwner_4)), (a9, .inl (cJ, 20, .inr (.inl f_words_4))), (a10, .inl (cI, 360, .inl f_values_4)), (a11, .inl (cI, 360, .inl f_roots_4)), (a12, .inl (cI, 240, .inl f_ends_4))] H locs := hw
          obtain ⟨w12, ew12, hF1⟩ := kk_bind hF1
          refine kk_iast F hw 5 rfl ew12 dX8_build_263 (fun H locs hw => ?_)
          have hw : kk_wd G A s.heap [(a0, .inr (8, [.ref a1, .int x_many, .int x_built_4, .int x_seed_4, .int x_graphSeed_4, .int x_bits_4, .int x_bucketMany_4, .int x_width_4, .ref a2, .ref a3, .ref a4, .ref a5, .ref a6, .ref a7, .ref a8, .ref a9, .ref a10, .ref a11, .ref a12, .int x_thrown_4])), (a1, .inl (cI, 120, .inl f_keys)), (a2, .inl (cI, 120, .inl f_sizes_4)), (a3, .inl (cI, 120, .inl f_shift_4)), (a4, .inl (cI, 120, .inl w9)), (a5, .inl (cI, 120, .inl w12)), (a6, .inl (cI, 120, .inl f_some_4)), (a7, .inl (cI, 120, .inl f_triedShift_4)), (a8, .inl (cI, 120, .inl f_triedOwner_4)), (a9, .inl (cJ, 20, .inr (.inl f_words_4))), (a10, .inl (cI, 360, .inl f_values_4)), (a11, .inl (cI, 360, .inl f_roots_4)), (a12, .inl (cI, 240, .inl f_ends_4))] H locs := hw
          refine lv_iinc (v := (i6_6 + 1)) (lv' := [(6, .int (i6_6 + 1)), (0, .ref a0)]) hx hb dX8_build_264 hl (k := 1) rfl rfl (by decide) rfl (fun ls hl => ?_)
          refine lv_goto (tgt := 223) hx hb dX8_build_267 (by decide) ?_
          have hy := Option.some.inj hF1
          subst hy
          exact ih6 w9 w12 (i6_6 + 1) hI1 _ _ _ hw (lv_sub hl [1, 0] rfl)
    exact hL6 N f_owner_4 f_prints_4 0 hz6 _ _ _ hw (lv_sub hl [1, 0] rfl)
  have hJ13 : ∀ (x_built_13 : Int32) (x_seed_13 : Int32) (x_graphSeed_13 : Int32) (x_bits_13 : Int32) (x_bucketMany_13 : Int32) (x_width_13 : Int32) (x_thrown_13 : Int32) (f_sizes_13 : Nat → Int32) (f_shift_13 : Nat → Int32) (f_owner_13 : Nat → Int32) (f_prints_13 : Nat → Int32) (f_some_13 : Nat → Int32) (f_triedShift_13 : Nat → Int32) (f_triedOwner_13 : Nat → Int32) (f_words_13 : Nat → Int64) (f_values_13 : Nat → Int32) (f_roots_13 : Nat → Int32) (f_ends_13 : Nat → Int32), J_X8_build_136 N x_built_13 x_seed_13 x_graphSeed_13 x_bits_13 x_bucketMany_13 x_width_13 x_thrown_13 f_sizes_13 f_shift_13 f_owner_13 f_prints_13 f_some_13 f_triedShift_13 f_triedOwner_13 f_words_13 f_values_13 f_roots_13 f_ends_13 = some x → ∀ (H : Heap) (locs : List Loc) (ls : Array Slot), kk_wd G A s.heap [(a0, .inr (8, [.ref a1, .int x_many, .int x_built_13, .int x_seed_13, .int x_graphSeed_13, .int x_bits_13, .int x_bucketMany_13, .int x_width_13, .ref a2, .ref a3, .ref a4, .ref a5, .ref a6, .ref a7, .ref a8, .ref a9, .ref a10, .ref a11, .ref a12, .int x_thrown_13])), (a1, .inl (cI, 120, .inl f_keys)), (a2, .inl (cI, 120, .inl f_sizes_13)), (a3, .inl (cI, 120, .inl f_shift_13)), (a4, .inl (cI, 120, .inl f_owner_13)), (a5, .inl (cI, 120, .inl f_prints_13)), (a6, .inl (cI, 120, .inl f_some_13)), (a7, .inl (cI, 120, .inl f_triedShift_13)), (a8, .inl (cI, 120, .inl f_triedOwner_13)), (a9, .inl (cJ, 20, .inr (.inl f_words_13))), (a10, .inl (cI, 360, .inl f_values_13)), (a11, .inl (cI, 360, .inl f_roots_13)), (a12, .inl (cI, 240, .inl f_ends_13))] H locs → lv_has ls 7 [(0, .ref a0)] → W p l e (kk_rm 7 0 0 166) s m ([.ref a0, .int i1, .int i2] : List Value).toArray below meth c H locs 0 0 Q (F0 m 136 ls []) := by
    intro x_built_13 x_seed_13 x_graphSeed_13 x_bits_13 x_bucketMany_13 x_width_13 x_thrown_13 f_sizes_13 f_shift_13 f_owner_13 f_prints_13 f_some_13 f_triedShift_13 f_triedOwner_13 f_words_13 f_values_13 f_roots_13 f_ends_13 hF0 H locs ls hw hl
    unfold J_X8_build_136 at hF0
    refine lv_aload_n hx hb dX8_build_136 rfl (lv_at hl 0 rfl) ?_
    refine lv_iconst (v := 2) hx hb dX8_build_137 (by decide) ?_
    obtain ⟨v14, ev14, hF0⟩ := kk_bind hF0
    refine kk_callI 0 0 hw (kk_runV (As := [.int 2]) (rest := []) F hw hl.1 (c_X8_fails l G cI cJ ad a0 a1 a2 a3 a4 a5 a6 a7 a8 a9 a10 a11 a12 x_many x_built_13 x_seed_13 x_graphSeed_13 x_bits_13 x_bucketMany_13 x_width_13 x_thrown_13 2 N v14 ev14 H.size) gX8_build_X8_fails rfl ⟨rfl, md_X8_fails⟩ ⟨Nat.le_of_ble_eq_true rfl, Nat.le_of_ble_eq_true rfl⟩ ⟨Nat.le_of_ble_eq_true rfl, Nat.le_of_ble_eq_true rfl⟩ 0 8 rfl rfl rfl rfl (Nat.le_of_ble_eq_true rfl) dX8_build_138) ⟨rfl, rfl⟩ [0] (by decide) rfl rfl (fun H locs hw => ?_)
    have hw : kk_wd G A s.heap [(a0, .inr (8, [.ref a1, .int x_many, .int x_built_13, .int x_seed_13, .int x_graphSeed_13, .int x_bits_13, .int x_bucketMany_13, .int x_width_13, .ref a2, .ref a3, .ref a4, .ref a5, .ref a6, .ref a7, .ref a8, .ref a9, .ref a10, .ref a11, .ref a12, .int v14.2])), (a1, .inl (cI, 120, .inl f_keys)), (a2, .inl (cI, 120, .inl f_sizes_13)), (a3, .inl (cI, 120, .inl f_shift_13)), (a4, .inl (cI, 120, .inl f_owner_13)), (a5, .inl (cI, 120, .inl f_prints_13)), (a6, .inl (cI, 120, .inl f_some_13)), (a7, .inl (cI, 120, .inl f_triedShift_13)), (a8, .inl (cI, 120, .inl f_triedOwner_13)), (a9, .inl (cJ, 20, .inr (.inl f_words_13))), (a10, .inl (cI, 360, .inl f_values_13)), (a11, .inl (cI, 360, .inl f_roots_13)), (a12, .inl (cI, 240, .inl f_ends_13))] H locs := hw
    have hy := Option.some.inj hF0
    subst hy
    exact hret dX8_build_141 (by decide) (by decide) hw
  have hJ15 : ∀ (x_built_15 : Int32) (x_seed_15 : Int32) (x_graphSeed_15 : Int32) (x_bits_15 : Int32) (x_bucketMany_15 : Int32) (x_width_15 : Int32) (x_thrown_15 : Int32) (f_sizes_15 : Nat → Int32) (f_shift_15 : Nat → Int32) (f_owner_15 : Nat → Int32) (f_prints_15 : Nat → Int32) (f_some_15 : Nat → Int32) (f_triedShift_15 : Nat → Int32) (f_triedOwner_15 : Nat → Int32) (f_words_15 : Nat → Int64) (f_values_15 : Nat → Int32) (f_roots_15 : Nat → Int32) (f_ends_15 : Nat → Int32) (i3_15 : Int32) (i4_15 : Int32) (i5_15 : Int32), J_X8_build_121 N x_many x_built_15 x_seed_15 x_graphSeed_15 x_bits_15 x_bucketMany_15 x_width_15 x_thrown_15 f_keys f_sizes_15 f_shift_15 f_owner_15 f_prints_15 f_some_15 f_triedShift_15 f_triedOwner_15 f_words_15 f_values_15 f_roots_15 f_ends_15 i2 i3_15 i4_15 i5_15 = some x → ∀ (H : Heap) (locs : List Loc) (ls : Array Slot), kk_wd G A s.heap [(a0, .inr (8, [.ref a1, .int x_many, .int x_built_15, .int x_seed_15, .int x_graphSeed_15, .int x_bits_15, .int x_bucketMany_15, .int x_width_15, .ref a2, .ref a3, .ref a4, .ref a5, .ref a6, .ref a7, .ref a8, .ref a9, .ref a10, .ref a11, .ref a12, .int x_thrown_15])), (a1, .inl (cI, 120, .inl f_keys)), (a2, .inl (cI, 120, .inl f_sizes_15)), (a3, .inl (cI, 120, .inl f_shift_15)), (a4, .inl (cI, 120, .inl f_owner_15)), (a5, .inl (cI, 120, .inl f_prints_15)), (a6, .inl (cI, 120, .inl f_some_15)), (a7, .inl (cI, 120, .inl f_triedShift_15)), (a8, .inl (cI, 120, .inl f_triedOwner_15)), (a9, .inl (cJ, 20, .inr (.inl f_words_15))), (a10, .inl (cI, 360, .inl f_values_15)), (a11, .inl (cI, 360, .inl f_roots_15)), (a12, .inl (cI, 240, .inl f_ends_15))] H locs → lv_has ls 7 [(0, .ref a0), (2, .int i2), (3, .int i3_15), (4, .int i4_15), (5, .int i5_15)] → W p l e (kk_rm 7 0 0 166) s m ([.ref a0, .int i1, .int i2] : List Value).toArray below meth c H locs 0 0 Q (F0 m 121 ls []) := by
    intro x_built_15 x_seed_15 x_graphSeed_15 x_bits_15 x_bucketMany_15 x_width_15 x_thrown_15 f_sizes_15 f_shift_15 f_owner_15 f_prints_15 f_some_15 f_triedShift_15 f_triedOwner_15 f_words_15 f_values_15 f_roots_15 f_ends_15 i3_15 i4_15 i5_15 hF0 H locs ls hw hl
    unfold J_X8_build_121 at hF0
    refine lv_iload hx hb dX8_build_121 (lv_at hl 3 rfl) ?_
    refine lv_bipush (v := 40) hx hb dX8_build_123 (by decide) ?_
    refine lv_icmp_eq (tgt := 136) hx hb dX8_build_125 (by decide) (fun c16 => ?_) (fun c16 => ?_)
    · have hF0 := (if_pos c16).symm.trans hF0
      exact hJ13 x_built_15 x_seed_15 x_graphSeed_15 x_bits_15 x_bucketMany_15 x_width_15 x_thrown_15 f_sizes_15 f_shift_15 f_owner_15 f_prints_15 f_some_15 f_triedShift_15 f_triedOwner_15 f_words_15 f_values_15 f_roots_15 f_ends_15 hF0 _ _ _ hw (lv_sub hl [0] rfl)
    · have hF0 := (if_neg c16).symm.trans hF0
      refine lv_iload hx hb dX8_build_128 (lv_at hl 4 rfl) ?_
      refine lv_sipush (v := 200) hx hb dX8_build_130 (by decide) ?_
      refine lv_icmp_ne (tgt := 142) hx hb dX8_build_133 (by decide) (fun c17 => ?_) (fun c17 => ?_)
      · have hF0 := (if_neg c17).symm.trans hF0
        refine lv_aload_n hx hb dX8_build_142 rfl (lv_at hl 0 rfl) ?_
        refine lv_iconst (v := 1) hx hb dX8_build_143 (by decide) ?_
        refine kk_put F hw ui_X8_build_X8 tyX8 tyX8_ok nmX8 0 rfl rfl 2 (by decide) m_X8_build_Cond_fieldLink_RX8_114_PerfectPewModel_built_Z_ rfl (by decide) (by decide) (Nat.le_of_ble_eq_true rfl) dX8_build_144 (fun H locs hw => ?_)
        have hw : kk_wd G A s.heap [(a0, .inr (8, [.ref a1, .int x_many, .int 1, .int x_seed_15, .int x_graphSeed_15, .int x_bits_15, .int x_bucketMany_15, .int x_width_15, .ref a2, .ref a3, .ref a4, .ref a5, .ref a6, .ref a7, .ref a8, .ref a9, .ref a10, .ref a11, .ref a12, .int x_thrown_15])), (a1, .inl (cI, 120, .inl f_keys)), (a2, .inl (cI, 120, .inl f_sizes_15)), (a3, .inl (cI, 120, .inl f_shift_15)), (a4, .inl (cI, 120, .inl f_owner_15)), (a5, .inl (cI, 120, .inl f_prints_15)), (a6, .inl (cI, 120, .inl f_some_15)), (a7, .inl (cI, 120, .inl f_triedShift_15)), (a8, .inl (cI, 120, .inl f_triedOwner_15)), (a9, .inl (cJ, 20, .inr (.inl f_words_15))), (a10, .inl (cI, 360, .inl f_values_15)), (a11, .inl (cI, 360, .inl f_roots_15)), (a12, .inl (cI, 240, .inl f_ends_15))] H locs := hw
        refine lv_aload_n hx hb dX8_build_147 rfl (lv_at hl 0 rfl) ?_
        refine lv_iload hx hb dX8_build_148 (lv_at hl 3 rfl) ?_
        refine kk_put F hw ui_X8_build_X8 tyX8 tyX8_ok nmX8 0 rfl rfl 3 (by decide) m_X8_build_Cond_fieldLink_RX8_162_PerfectPewModel_seed_I_ rfl rfl rfl (Nat.le_of_ble_eq_true rfl) dX8_build_150 (fun H locs hw => ?_)
        have hw : kk_wd G A s.heap [(a0, .inr (8, [.ref a1, .int x_many, .int 1, .int i4_15, .int x_graphSeed_15, .int x_bits_15, .int x_bucketMany_15, .int x_width_15, .ref a2, .ref a3, .ref a4, .ref a5, .ref a6, .ref a7, .ref a8, .ref a9, .ref a10, .ref a11, .ref a12, .int x_thrown_15])), (a1, .inl (cI, 120, .inl f_keys)), (a2, .inl (cI, 120, .inl f_sizes_15)), (a3, .inl (cI, 120, .inl f_shift_15)), (a4, .inl (cI, 120, .inl f_owner_15)), (a5, .inl (cI, 120, .inl f_prints_15)), (a6, .inl (cI, 120, .inl f_some_15)), (a7, .inl (cI, 120, .inl f_triedShift_15)), (a8, .inl (cI, 120, .inl f_triedOwner_15)), (a9, .inl (cJ, 20, .inr (.inl f_words_15))), (a10, .inl (cI, 360, .inl f_values_15)), (a11, .inl (cI, 360, .inl f_roots_15)), (a12, .inl (cI, 240, .inl f_ends_15))] H locs := hw
        refine lv_aload_n hx hb dX8_build_153 rfl (lv_at hl 0 rfl) ?_
        refine lv_iload hx hb dX8_build_154 (lv_at hl 4 rfl) ?_
        refine kk_put F hw ui_X8_build_X8 tyX8 tyX8_ok nmX8 0 rfl rfl 4 (by decide) m_X8_build_Cond_fieldLink_RX8_165_PerfectPewModel_graphSeed_I_ rfl rfl rfl (Nat.le_of_ble_eq_true rfl) dX8_build_156 (fun H locs hw => ?_)
        have hw : kk_wd G A s.heap [(a0, .inr (8, [.ref a1, .int x_many, .int 1, .int i4_15, .int i5_15, .int x_bits_15, .int x_bucketMany_15, .int x_width_15, .ref a2, .ref a3, .ref a4, .ref a5, .ref a6, .ref a7, .ref a8, .ref a9, .ref a10, .ref a11, .ref a12, .int x_thrown_15])), (a1, .inl (cI, 120, .inl f_keys)), (a2, .inl (cI, 120, .inl f_sizes_15)), (a3, .inl (cI, 120, .inl f_shift_15)), (a4, .inl (cI, 120, .inl f_owner_15)), (a5, .inl (cI, 120, .inl f_prints_15)), (a6, .inl (cI, 120, .inl f_some_15)), (a7, .inl (cI, 120, .inl f_triedShift_15)), (a8, .inl (cI, 120, .inl f_triedOwner_15)), (a9, .inl (cJ, 20, .inr (.inl f_words_15))), (a10, .inl (cI, 360, .inl f_values_15)), (a11, .inl (cI, 360, .inl f_roots_15)), (a12, .inl (cI, 240, .inl f_ends_15))] H locs := hw
        refine lv_aload_n hx hb dX8_build_159 rfl (lv_at hl 0 rfl) ?_
        refine lv_iload_n hx hb dX8_build_160 rfl (lv_at hl 1 rfl) ?_
        refine kk_put F hw ui_X8_build_X8 tyX8 tyX8_ok nmX8 0 rfl rfl 5 (by decide) m_X8_build_Cond_fieldLink_RX8_168_PerfectPewModel_bits_I_ rfl rfl rfl (Nat.le_of_ble_eq_true rfl) dX8_build_161 (fun H locs hw => ?_)
        have hw : kk_wd G A s.heap [(a0, .inr (8, [.ref a1, .int x_many, .int 1, .int i4_15, .int i5_15, .int i2, .int x_bucketMany_15, .int x_width_15, .ref a2, .ref a3, .ref a4, .ref a5, .ref a6, .ref a7, .ref a8, .ref a9, .ref a10, .ref a11, .ref a12, .int x_thrown_15])), (a1, .inl (cI, 120, .inl f_keys)), (a2, .inl (cI, 120, .inl f_sizes_15)), (a3, .inl (cI, 120, .inl f_shift_15)), (a4, .inl (cI, 120, .inl f_owner_15)), (a5, .inl (cI, 120, .inl f_prints_15)), (a6, .inl (cI, 120, .inl f_some_15)), (a7, .inl (cI, 120, .inl f_triedShift_15)), (a8, .inl (cI, 120, .inl f_triedOwner_15)), (a9, .inl (cJ, 20, .inr (.inl f_words_15))), (a10, .inl (cI, 360, .inl f_values_15)), (a11, .inl (cI, 360, .inl f_roots_15)), (a12, .inl (cI, 240, .inl f_ends_15))] H locs := hw
        refine lv_aload_n hx hb dX8_build_164 rfl (lv_at hl 0 rfl) ?_
        refine lv_iload_n hx hb dX8_build_165 rfl (lv_at hl 2 rfl) ?_
        refine kk_put F hw ui_X8_build_X8 tyX8 tyX8_ok nmX8 0 rfl rfl 6 (by decide) m_X8_build_Cond_fieldLink_RX8_149_PerfectPewModel_bucketMany_I_ rfl rfl rfl (Nat.le_of_ble_eq_true rfl) dX8_build_166 (fun H locs hw => ?_)
        have hw : kk_wd G A s.heap [(a0, .inr (8, [.ref a1, .int x_many, .int 1, .int i4_15, .int i5_15, .int i2, .int i3_15, .int x_width_15, .ref a2, .ref a3, .ref a4, .ref a5, .ref a6, .ref a7, .ref a8, .ref a9, .ref a10, .ref a11, .ref a12, .int x_thrown_15])), (a1, .inl (cI, 120, .inl f_keys)), (a2, .inl (cI, 120, .inl f_sizes_15)), (a3, .inl (cI, 120, .inl f_shift_15)), (a4, .inl (cI, 120, .inl f_owner_15)), (a5, .inl (cI, 120, .inl f_prints_15)), (a6, .inl (cI, 120, .inl f_some_15)), (a7, .inl (cI, 120, .inl f_triedShift_15)), (a8, .inl (cI, 120, .inl f_triedOwner_15)), (a9, .inl (cJ, 20, .inr (.inl f_words_15))), (a10, .inl (cI, 360, .inl f_values_15)), (a11, .inl (cI, 360, .inl f_roots_15)), (a12, .inl (cI, 240, .inl f_ends_15))] H locs := hw
        refine lv_iconst (v := 0) hx hb dX8_build_169 (by decide) ?_
        refine lv_istore (lv' := [(6, .int 0), (0, .ref a0), (2, .int i2), (3, .int i3_15), (4, .int i4_15), (5, .int i5_15)]) hx hb dX8_build_170 hl (by decide) rfl (fun ls hl => ?_)
        obtain ⟨z18, hz19, hF0⟩ := kk_bind hF0
        have hL19 : ∀ (n19 : Nat) (f_sizes_19 : Nat → Int32) (f_shift_19 : Nat → Int32) (f_some_19 : Nat → Int32) (i6_19 : Int32), kk_iter (fun (σ : ((Nat → Int32) × (Nat → Int32) × (Nat → Int32) × Int32)) => L_X8_build_172 N x_many i3_15 f_keys f_triedShift_15 i4_15 σ.1 σ.2.1 σ.2.2.1 σ.2.2.2) n19 (f_sizes_19, f_shift_19, f_some_19, i6_19) = some z18 → ∀ (H : Heap) (locs : List Loc) (ls : Array Slot), kk_wd G A s.heap [(a0, .inr (8, [.ref a1, .int x_many, .int 1, .int i4_15, .int i5_15, .int i2, .int i3_15, .int x_width_15, .ref a2, .ref a3, .ref a4, .ref a5, .ref a6, .ref a7, .ref a8, .ref a9, .ref a10, .ref a11, .ref a12, .int x_thrown_15])), (a1, .inl (cI, 120, .inl f_keys)), (a2, .inl (cI, 120, .inl f_sizes_19)), (a3, .inl (cI, 120, .inl f_shift_19)), (a4, .inl (cI, 120, .inl f_owner_15)), (a5, .inl (cI, 120, .inl f_prints_15)), (a6, .inl (cI, 120, .inl f_some_19)), (a7, .inl (cI, 120, .inl f_triedShift_15)), (a8, .inl (cI, 120, .inl f_triedOwner_15)), (a9, .inl (cJ, 20, .inr (.inl f_words_15))), (a10, .inl (cI, 360, .inl f_values_15)), (a11, .inl (cI, 360, .inl f_roots_15)), (a12, .inl (cI, 240, .inl f_ends_15))] H locs → lv_has ls 7 [(0, .ref a0), (4, .int i4_15), (6, .int i6_19)] → W p l e (kk_rm 7 0 0 166) s m ([.ref a0, .int i1, .int i2] : List Value).toArray below meth c H locs 0 0 Q (F0 m 172 ls []) := by
          intro n19
          induction n19 with
          | zero => intro f_sizes_19 f_shift_19 f_some_19 i6_19 h; exact kk_iter0 h
          | succ n19 ih19 =>
            intro f_sizes_19 f_shift_19 f_some_19 i6_19 hq H locs ls hw hl
            obtain ⟨y19, hF1, hI1⟩ := kk_iterS hq
            have hF1 : L_X8_build_172 N x_many i3_15 f_keys f_triedShift_15 i4_15 f_sizes_19 f_shift_19 f_some_19 i6_19 = some y19 := hF1
            unfold L_X8_build_172 at hF1
            refine lv_iload hx hb dX8_build_172 (lv_at hl 2 rfl) ?_
            refine lv_aload_n hx hb dX8_build_174 rfl (lv_at hl 0 rfl) ?_
            refine kk_get (T := TX8) F hw ui_X8_build_X8 0 rfl rfl 6 (by decide) m_X8_build_Cond_fieldLink_RX8_149_PerfectPewModel_bucketMany_I_ rfl dX8_build_175 ?_
            refine lv_icmp_ge (tgt := 220) hx hb dX8_build_178 (by decide) (fun c20 => ?_) (fun c20 => ?_)
            · have hF1 := (if_pos c20).symm.trans hF1
              have hy := Option.some.inj hF1
              subst hy
              have hz := Option.some.inj hI1
              subst hz
              exact hJ4 1 i4_15 i5_15 i2 i3_15 x_width_15 x_thrown_15 f_sizes_19 f_shift_19 f_owner_15 f_prints_15 f_some_19 f_triedShift_15 f_triedOwner_15 f_words_15 f_values_15 f_roots_15 f_ends_15 hF0 _ _ _ hw (lv_sub hl [0] rfl)
            · have hF1 := (if_neg c20).symm.trans hF1
              refine lv_aload_n hx hb dX8_build_181 rfl (lv_at hl 0 rfl) ?_
              refine kk_get (T := TX8) F hw ui_X8_build_X8 0 rfl rfl 8 (by decide) m_X8_build_Cond_fieldLink_RX8_13_PerfectPewModel_sizes_I_ rfl dX8_build_182 ?_
              refine lv_iload hx hb dX8_build_185 (lv_at hl 2 rfl) ?_
              refine lv_aload_n hx hb dX8_build_187 rfl (lv_at hl 0 rfl) ?_
              refine lv_iload hx hb dX8_build_188 (lv_at hl 2 rfl) ?_
              refine lv_iload hx hb dX8_build_190 (lv_at hl 1 rfl) ?_
              refine lv_aload_n hx hb dX8_build_192 rfl (lv_at hl 0 rfl) ?_
              refine kk_get (T := TX8) F hw ui_X8_build_X8 0 rfl rfl 6 (by decide) m_X8_build_Cond_fieldLink_RX8_149_PerfectPewModel_bucketMany_I_ rfl dX8_build_193 ?_
              obtain ⟨v21, ev21, hF1⟩ := kk_bind hF1
              refine kk_callI 0 0 hw (kk_runV (As := [.int i6_19, .int i4_15, .int i3_15]) (rest := [.int i6_19, .ref a2]) F hw hl.1 (c_X8_gather l G cI cJ ad a0 a1 a2 a3 a4 a5 a6 a7 a8 a9 a10 a11 a12 x_many 1 i4_15 i5_15 i2 i3_15 x_width_15 x_thrown_15 f_keys f_some_19 i6_19 i4_15 i3_15 N v21 ev21 H.size) gX8_build_X8_gather rfl ⟨rfl, md_X8_gather⟩ ⟨Nat.le_of_ble_eq_true rfl, Nat.le_of_ble_eq_true rfl⟩ ⟨Nat.le_of_ble_eq_true rfl, Nat.le_of_ble_eq_true rfl⟩ 0 8 rfl rfl rfl rfl (Nat.le_of_ble_eq_true rfl) dX8_build_196) ⟨rfl, rfl⟩ [0, 1, 6] (by decide) rfl rfl (fun H locs hw => ?_)
              have hw : kk_wd G A s.heap [(a0, .inr (8, [.ref a1, .int x_many, .int 1, .int i4_15, .int i5_15, .int i2, .int i3_15, .int x_width_15, .ref a2, .ref a3, .ref a4, .ref a5, .ref a6, .ref a7, .ref a8, .ref a9, .ref a10, .ref a11, .ref a12, .int x_thrown_15])), (a1, .inl (cI, 120, .inl f_keys)), (a2, .inl (cI, 120, .inl f_sizes_19)), (a3, .inl (cI, 120, .inl f_shift_19)), (a4, .inl (cI, 120, .inl f_owner_15)), (a5, .inl (cI, 120, .inl f_prints_15)), (a6, .inl (cI, 120, .inl v21.2)), (a7, .inl (cI, 120, .inl f_triedShift_15)), (a8, .inl (cI, 120, .inl f_triedOwner_15)), (a9, .inl (cJ, 20, .inr (.inl f_words_15))), (a10, .inl (cI, 360, .inl f_values_15)), (a11, .inl (cI, 360, .inl f_roots_15)), (a12, .inl (cI, 240, .inl f_ends_15))] H locs := hw
              obtain ⟨w22, ew22, hF1⟩ := kk_bind hF1
              refine kk_iast F hw 2 rfl ew22 dX8_build_199 (fun H locs hw => ?_)
              have hw : kk_wd G A s.heap [(a0, .inr (8, [.ref a1, .int x_many, .int 1, .int i4_15, .int i5_15, .int i2, .int i3_15, .int x_width_15, .ref a2, .ref a3, .ref a4, .ref a5, .ref a6, .ref a7, .ref a8, .ref a9, .ref a10, .ref a11, .ref a12, .int x_thrown_15])), (a1, .inl (cI, 120, .inl f_keys)), (a2, .inl (cI, 120, .inl w22)), (a3, .inl (cI, 120, .inl f_shift_19)), (a4, .inl (cI, 120, .inl f_owner_15)), (a5, .inl (cI, 120, .inl f_prints_15)), (a6, .inl (cI, 120, .inl v21.2)), (a7, .inl (cI, 120, .inl f_triedShift_15)), (a8, .inl (cI, 120, .inl f_triedOwner_15)), (a9, .inl (cJ, 20, .inr (.inl f_words_15))), (a10, .inl (cI, 360, .inl f_values_15)), (a11, .inl (cI, 360, .inl f_roots_15)), (a12, .inl (cI, 240, .inl f_ends_15))] H locs := hw
              refine lv_aload_n hx hb dX8_build_200 rfl (lv_at hl 0 rfl) ?_
              refine kk_get (T := TX8) F hw ui_X8_build_X8 0 rfl rfl 9 (by decide) m_X8_build_Cond_fieldLink_RX8_16_PerfectPewModel_shift_I_ rfl dX8_build_201 ?_
              refine lv_iload hx hb dX8_build_204 (lv_at hl 2 rfl) ?_
              refine lv_aload_n hx hb dX8_build_206 rfl (lv_at hl 0 rfl) ?_
              refine kk_get (T := TX8) F hw ui_X8_build_X8 0 rfl rfl 13 (by decide) m_X8_build_Cond_fieldLink_RX8_28_PerfectPewModel_triedShift_I_ rfl dX8_build_207 ?_
              refine lv_iload hx hb dX8_build_210 (lv_at hl 2 rfl) ?_
              obtain ⟨v23, ev23, hF1⟩ := kk_bind hF1
              refine kk_iald F hw 7 rfl ev23 dX8_build_212 ?_
              obtain ⟨w24, ew24, hF1⟩ := kk_bind hF1
              refine kk_iast F hw 3 rfl ew24 dX8_build_213 (fun H locs hw => ?_)
              have hw : kk_wd G A s.heap [(a0, .inr (8, [.ref a1, .int x_many, .int 1, .int i4_15, .int i5_15, .int i2, .int i3_15, .int x_width_15, .ref a2, .ref a3, .ref a4, .ref a5, .ref a6, .ref a7, .ref a8, .ref a9, .ref a10, .ref a11, .ref a12, .int x_thrown_15])), (a1, .inl (cI, 120, .inl f_keys)), (a2, .inl (cI, 120, .inl w22)), (a3, .inl (cI, 120, .inl w24)), (a4, .inl (cI, 120, .inl f_owner_15)), (a5, .inl (cI, 120, .inl f_prints_15)), (a6, .inl (cI, 120, .inl v21.2)), (a7, .inl (cI, 120, .inl f_triedShift_15)), (a8, .inl (cI, 120, .inl f_triedOwner_15)), (a9, .inl (cJ, 20, .inr (.inl f_words_15))), (a10, .inl (cI, 360, .inl f_values_15)), (a11, .inl (cI, 360, .inl f_roots_15)), (a12, .inl (cI, 240, .inl f_ends_15))] H locs := hw
              refine lv_iinc (v := (i6_19 + 1)) (lv' := [(6, .int (i6_19 + 1)), (0, .ref a0), (4, .int i4_15)]) hx hb dX8_build_214 hl (k := 2) rfl rfl (by decide) rfl (fun ls hl => ?_)
              refine lv_goto (tgt := 172) hx hb dX8_build_217 (by decide) ?_
              have hy := Option.some.inj hF1
              subst hy
              exact ih19 w22 w24 v21.2 (i6_19 + 1) hI1 _ _ _ hw (lv_sub hl [1, 2, 0] rfl)
        exact hL19 N f_sizes_15 f_shift_15 f_some_15 0 hz19 _ _ _ hw (lv_sub hl [1, 4, 0] rfl)
      · have hF0 := (if_pos c17).symm.trans hF0
        exact hJ13 x_built_15 x_seed_15 x_graphSeed_15 x_bits_15 x_bucketMany_15 x_width_15 x_thrown_15 f_sizes_15 f_shift_15 f_owner_15 f_prints_15 f_some_15 f_triedShift_15 f_triedOwner_15 f_words_15 f_values_15 f_roots_15 f_ends_15 hF0 _ _ _ hw (lv_sub hl [0] rfl)
  have hJ25 : ∀ (x_built_25 : Int32) (x_seed_25 : Int32) (x_graphSeed_25 : Int32) (x_bits_25 : Int32) (x_bucketMany_25 : Int32) (x_width_25 : Int32) (x_thrown_25 : Int32) (f_sizes_25 : Nat → Int32) (f_shift_25 : Nat → Int32) (f_owner_25 : Nat → Int32) (f_prints_25 : Nat → Int32) (f_some_25 : Nat → Int32) (f_triedShift_25 : Nat → Int32) (f_triedOwner_25 : Nat → Int32) (f_words_25 : Nat → Int64) (f_values_25 : Nat → Int32) (f_roots_25 : Nat → Int32) (f_ends_25 : Nat → Int32) (i3_25 : Int32) (i4_25 : Int32), J_X8_build_88 N x_many x_built_25 x_seed_25 x_graphSeed_25 x_bits_25 x_bucketMany_25 x_width_25 x_thrown_25 f_keys f_sizes_25 f_shift_25 f_owner_25 f_prints_25 f_some_25 f_triedShift_25 f_triedOwner_25 f_words_25 f_values_25 f_roots_25 f_ends_25 i2 i3_25 i4_25 = some x → ∀ (H : Heap) (locs : List Loc) (ls : Array Slot), kk_wd G A s.heap [(a0, .inr (8, [.ref a1, .int x_many, .int x_built_25, .int x_seed_25, .int x_graphSeed_25, .int x_bits_25, .int x_bucketMany_25, .int x_width_25, .ref a2, .ref a3, .ref a4, .ref a5, .ref a6, .ref a7, .ref a8, .ref a9, .ref a10, .ref a11, .ref a12, .int x_thrown_25])), (a1, .inl (cI, 120, .inl f_keys)), (a2, .inl (cI, 120, .inl f_sizes_25)), (a3, .inl (cI, 120, .inl f_shift_25)), (a4, .inl (cI, 120, .inl f_owner_25)), (a5, .inl (cI, 120, .inl f_prints_25)), (a6, .inl (cI, 120, .inl f_some_25)), (a7, .inl (cI, 120, .inl f_triedShift_25)), (a8, .inl (cI, 120, .inl f_triedOwner_25)), (a9, .inl (cJ, 20, .inr (.inl f_words_25))), (a10, .inl (cI, 360, .inl f_values_25)), (a11, .inl (cI, 360, .inl f_roots_25)), (a12, .inl (cI, 240, .inl f_ends_25))] H locs → lv_has ls 7 [(0, .ref a0), (2, .int i2), (3, .int i3_25), (4, .int i4_25)] → W p l e (kk_rm 7 0 0 166) s m ([.ref a0, .int i1, .int i2] : List Value).toArray below meth c H locs 0 0 Q (F0 m 88 ls []) := by
    intro x_built_25 x_seed_25 x_graphSeed_25 x_bits_25 x_bucketMany_25 x_width_25 x_thrown_25 f_sizes_25 f_shift_25 f_owner_25 f_prints_25 f_some_25 f_triedShift_25 f_triedOwner_25 f_words_25 f_values_25 f_roots_25 f_ends_25 i3_25 i4_25 hF0 H locs ls hw hl
    unfold J_X8_build_88 at hF0
    refine lv_iconst (v := 0) hx hb dX8_build_88 (by decide) ?_
    refine lv_istore (lv' := [(5, .int 0), (0, .ref a0), (2, .int i2), (3, .int i3_25), (4, .int i4_25)]) hx hb dX8_build_89 hl (by decide) rfl (fun ls hl => ?_)
    obtain ⟨z26, hz27, hF0⟩ := kk_bind hF0
    have hL27 : ∀ (n27 : Nat) (f_roots_27 : Nat → Int32) (f_ends_27 : Nat → Int32) (i5_27 : Int32), kk_iter (fun (σ : ((Nat → Int32) × (Nat → Int32) × Int32)) => L_X8_build_91 N x_many f_keys i4_25 σ.1 σ.2.1 σ.2.2) n27 (f_roots_27, f_ends_27, i5_27) = some z26 → ∀ (H : Heap) (locs : List Loc) (ls : Array Slot), kk_wd G A s.heap [(a0, .inr (8, [.ref a1, .int x_many, .int x_built_25, .int x_seed_25, .int x_graphSeed_25, .int x_bits_25, .int x_bucketMany_25, .int x_width_25, .ref a2, .ref a3, .ref a4, .ref a5, .ref a6, .ref a7, .ref a8, .ref a9, .ref a10, .ref a11, .ref a12, .int x_thrown_25])), (a1, .inl (cI, 120, .inl f_keys)), (a2, .inl (cI, 120, .inl f_sizes_25)), (a3, .inl (cI, 120, .inl f_shift_25)), (a4, .inl (cI, 120, .inl f_owner_25)), (a5, .inl (cI, 120, .inl f_prints_25)), (a6, .inl (cI, 120, .inl f_some_25)), (a7, .inl (cI, 120, .inl f_triedShift_25)), (a8, .inl (cI, 120, .inl f_triedOwner_25)), (a9, .inl (cJ, 20, .inr (.inl f_words_25))), (a10, .inl (cI, 360, .inl f_values_25)), (a11, .inl (cI, 360, .inl f_roots_27)), (a12, .inl (cI, 240, .inl f_ends_27))] H locs → lv_has ls 7 [(0, .ref a0), (2, .int i2), (3, .int i3_25), (4, .int i4_25), (5, .int i5_27)] → W p l e (kk_rm 7 0 0 166) s m ([.ref a0, .int i1, .int i2] : List Value).toArray below meth c H locs 0 0 Q (F0 m 91 ls []) := by
      intro n27
      induction n27 with
      | zero => intro f_roots_27 f_ends_27 i5_27 h; exact kk_iter0 h
      | succ n27 ih27 =>
        intro f_roots_27 f_ends_27 i5_27 hq H locs ls hw hl
        obtain ⟨y27, hF1, hI1⟩ := kk_iterS hq
        have hF1 : L_X8_build_91 N x_many f_keys i4_25 f_roots_27 f_ends_27 i5_27 = some y27 := hF1
        unfold L_X8_build_91 at hF1
        refine lv_iload hx hb dX8_build_91 (lv_at hl 3 rfl) ?_
        refine lv_bipush (v := 40) hx hb dX8_build_93 (by decide) ?_
        refine lv_icmp_ge (tgt := 121) hx hb dX8_build_95 (by decide) (fun c28 => ?_) (fun c28 => ?_)
        · have hF1 := (if_pos c28).symm.trans hF1
          have hy := Option.some.inj hF1
          subst hy
          have hz := Option.some.inj hI1
          subst hz
          exact hJ15 x_built_25 x_seed_25 x_graphSeed_25 x_bits_25 x_bucketMany_25 x_width_25 x_thrown_25 f_sizes_25 f_shift_25 f_owner_25 f_prints_25 f_some_25 f_triedShift_25 f_triedOwner_25 f_words_25 f_values_25 f_roots_27 f_ends_27 i3_25 i4_25 i5_27 hF0 _ _ _ hw (lv_sub hl [0, 1, 2, 3, 4] rfl)
        · have hF1 := (if_neg c28).symm.trans hF1
          refine lv_iload hx hb dX8_build_98 (lv_at hl 4 rfl) ?_
          refine lv_sipush (v := 200) hx hb dX8_build_100 (by decide) ?_
          refine lv_icmp_ge (tgt := 121) hx hb dX8_build_103 (by decide) (fun c29 => ?_) (fun c29 => ?_)
          · have hF1 := (if_pos c29).symm.trans hF1
            have hy := Option.some.inj hF1
            subst hy
            have hz := Option.some.inj hI1
            subst hz
            exact hJ15 x_built_25 x_seed_25 x_graphSeed_25 x_bits_25 x_bucketMany_25 x_width_25 x_thrown_25 f_sizes_25 f_shift_25 f_owner_25 f_prints_25 f_some_25 f_triedShift_25 f_triedOwner_25 f_words_25 f_values_25 f_roots_27 f_ends_27 i3_25 i4_25 i5_27 hF0 _ _ _ hw (lv_sub hl [0, 1, 2, 3, 4] rfl)
          · have hF1 := (if_neg c29).symm.trans hF1
            refine lv_aload_n hx hb dX8_build_106 rfl (lv_at hl 0 rfl) ?_
            refine lv_iload hx hb dX8_build_107 (lv_at hl 4 rfl) ?_
            obtain ⟨v30, ev30, hF1⟩ := kk_bind hF1
            refine kk_callI 0 0 hw (kk_runV (As := [.int i5_27]) (rest := []) F hw hl.1 (c_X8_hasNoCircle l G cI cJ ad a0 a1 a2 a3 a4 a5 a6 a7 a8 a9 a10 a11 a12 x_many x_built_25 x_seed_25 x_graphSeed_25 x_bits_25 x_bucketMany_25 x_width_25 x_thrown_25 f_keys f_roots_27 f_ends_27 i5_27 N v30 ev30 H.size) gX8_build_X8_hasNoCircle rfl ⟨rfl, md_X8_hasNoCircle⟩ ⟨Nat.le_of_ble_eq_true rfl, Nat.le_of_ble_eq_true rfl⟩ ⟨Nat.le_of_ble_eq_true rfl, Nat.le_of_ble_eq_true rfl⟩ 0 8 rfl rfl rfl rfl (Nat.le_of_ble_eq_true rfl) dX8_build_109) ⟨rfl, rfl⟩ [0, 1, 11, 12] (by decide) rfl rfl (fun H locs hw => ?_)
            have hw : kk_wd G A s.heap [(a0, .inr (8, [.ref a1, .int x_many, .int x_built_25, .int x_seed_25, .int x_graphSeed_25, .int x_bits_25, .int x_bucketMany_25, .int x_width_25, .ref a2, .ref a3, .ref a4, .ref a5, .ref a6, .ref a7, .ref a8, .ref a9, .ref a10, .ref a11, .ref a12, .int x_thrown_25])), (a1, .inl (cI, 120, .inl f_keys)), (a2, .inl (cI, 120, .inl f_sizes_25)), (a3, .inl (cI, 120, .inl f_shift_25)), (a4, .inl (cI, 120, .inl f_owner_25)), (a5, .inl (cI, 120, .inl f_prints_25)), (a6, .inl (cI, 120, .inl f_some_25)), (a7, .inl (cI, 120, .inl f_triedShift_25)), (a8, .inl (cI, 120, .inl f_triedOwner_25)), (a9, .inl (cJ, 20, .inr (.inl f_words_25))), (a10, .inl (cI, 360, .inl f_values_25)), (a11, .inl (cI, 360, .inl v30.2.1)), (a12, .inl (cI, 240, .inl v30.2.2))] H locs := hw
            refine lv_if_ne (tgt := 121) hx hb dX8_build_112 (by decide) (fun c31 => ?_) (fun c31 => ?_)
            · have hF1 := (if_neg c31).symm.trans hF1
              have hy := Option.some.inj hF1
              subst hy
              have hz := Option.some.inj hI1
              subst hz
              exact hJ15 x_built_25 x_seed_25 x_graphSeed_25 x_bits_25 x_bucketMany_25 x_width_25 x_thrown_25 f_sizes_25 f_shift_25 f_owner_25 f_prints_25 f_some_25 f_triedShift_25 f_triedOwner_25 f_words_25 f_values_25 v30.2.1 v30.2.2 i3_25 i4_25 i5_27 hF0 _ _ _ hw (lv_sub hl [0, 1, 2, 3, 4] rfl)
            · have hF1 := (if_pos c31).symm.trans hF1
              refine lv_iinc (v := (i5_27 + 1)) (lv' := [(5, .int (i5_27 + 1)), (0, .ref a0), (2, .int i2), (3, .int i3_25), (4, .int i4_25)]) hx hb dX8_build_115 hl (k := 4) rfl rfl (by decide) rfl (fun ls hl => ?_)
              refine lv_goto (tgt := 91) hx hb dX8_build_118 (by decide) ?_
              have hy := Option.some.inj hF1
              subst hy
              exact ih27 v30.2.1 v30.2.2 (i5_27 + 1) hI1 _ _ _ hw (lv_sub hl [1, 2, 3, 4, 0] rfl)
    exact hL27 N f_roots_25 f_ends_25 0 hz27 _ _ _ hw (lv_sub hl [1, 2, 3, 4, 0] rfl)
  have hJ32 : ∀ (x_built_32 : Int32) (x_seed_32 : Int32) (x_graphSeed_32 : Int32) (x_bits_32 : Int32) (x_bucketMany_32 : Int32) (x_width_32 : Int32) (x_thrown_32 : Int32) (f_sizes_32 : Nat → Int32) (f_shift_32 : Nat → Int32) (f_owner_32 : Nat → Int32) (f_prints_32 : Nat → Int32) (f_some_32 : Nat → Int32) (f_triedShift_32 : Nat → Int32) (f_triedOwner_32 : Nat → Int32) (f_words_32 : Nat → Int64) (f_values_32 : Nat → Int32) (f_roots_32 : Nat → Int32) (f_ends_32 : Nat → Int32), J_X8_build_45 N x_built_32 x_seed_32 x_graphSeed_32 x_bits_32 x_bucketMany_32 x_width_32 x_thrown_32 f_sizes_32 f_shift_32 f_owner_32 f_prints_32 f_some_32 f_triedShift_32 f_triedOwner_32 f_words_32 f_values_32 f_roots_32 f_ends_32 = some x → ∀ (H : Heap) (locs : List Loc) (ls : Array Slot), kk_wd G A s.heap [(a0, .inr (8, [.ref a1, .int x_many, .int x_built_32, .int x_seed_32, .int x_graphSeed_32, .int x_bits_32, .int x_bucketMany_32, .int x_width_32, .ref a2, .ref a3, .ref a4, .ref a5, .ref a6, .ref a7, .ref a8, .ref a9, .ref a10, .ref a11, .ref a12, .int x_thrown_32])), (a1, .inl (cI, 120, .inl f_keys)), (a2, .inl (cI, 120, .inl f_sizes_32)), (a3, .inl (cI, 120, .inl f_shift_32)), (a4, .inl (cI, 120, .inl f_owner_32)), (a5, .inl (cI, 120, .inl f_prints_32)), (a6, .inl (cI, 120, .inl f_some_32)), (a7, .inl (cI, 120, .inl f_triedShift_32)), (a8, .inl (cI, 120, .inl f_triedOwner_32)), (a9, .inl (cJ, 20, .inr (.inl f_words_32))), (a10, .inl (cI, 360, .inl f_values_32)), (a11, .inl (cI, 360, .inl f_roots_32)), (a12, .inl (cI, 240, .inl f_ends_32))] H locs → lv_has ls 7 [(0, .ref a0)] → W p l e (kk_rm 7 0 0 166) s m ([.ref a0, .int i1, .int i2] : List Value).toArray below meth c H locs 0 0 Q (F0 m 45 ls []) := by
    intro x_built_32 x_seed_32 x_graphSeed_32 x_bits_32 x_bucketMany_32 x_width_32 x_thrown_32 f_sizes_32 f_shift_32 f_owner_32 f_prints_32 f_some_32 f_triedShift_32 f_triedOwner_32 f_words_32 f_values_32 f_roots_32 f_ends_32 hF0 H locs ls hw hl
    unfold J_X8_build_45 at hF0
    refine lv_aload_n hx hb dX8_build_45 rfl (lv_at hl 0 rfl) ?_
    refine lv_iconst (v := 2) hx hb dX8_build_46 (by decide) ?_
    obtain ⟨v33, ev33, hF0⟩ := kk_bind hF0
    refine kk_callI 0 0 hw (kk_runV (As := [.int 2]) (rest := []) F hw hl.1 (c_X8_fails l G cI cJ ad a0 a1 a2 a3 a4 a5 a6 a7 a8 a9 a10 a11 a12 x_many x_built_32 x_seed_32 x_graphSeed_32 x_bits_32 x_bucketMany_32 x_width_32 x_thrown_32 2 N v33 ev33 H.size) gX8_build_X8_fails rfl ⟨rfl, md_X8_fails⟩ ⟨Nat.le_of_ble_eq_true rfl, Nat.le_of_ble_eq_true rfl⟩ ⟨Nat.le_of_ble_eq_true rfl, Nat.le_of_ble_eq_true rfl⟩ 0 8 rfl rfl rfl rfl (Nat.le_of_ble_eq_true rfl) dX8_build_47) ⟨rfl, rfl⟩ [0] (by decide) rfl rfl (fun H locs hw => ?_)
    have hw : kk_wd G A s.heap [(a0, .inr (8, [.ref a1, .int x_many, .int x_built_32, .int x_seed_32, .int x_graphSeed_32, .int x_bits_32, .int x_bucketMany_32, .int x_width_32, .ref a2, .ref a3, .ref a4, .ref a5, .ref a6, .ref a7, .ref a8, .ref a9, .ref a10, .ref a11, .ref a12, .int v33.2])), (a1, .inl (cI, 120, .inl f_keys)), (a2, .inl (cI, 120, .inl f_sizes_32)), (a3, .inl (cI, 120, .inl f_shift_32)), (a4, .inl (cI, 120, .inl f_owner_32)), (a5, .inl (cI, 120, .inl f_prints_32)), (a6, .inl (cI, 120, .inl f_some_32)), (a7, .inl (cI, 120, .inl f_triedShift_32)), (a8, .inl (cI, 120, .inl f_triedOwner_32)), (a9, .inl (cJ, 20, .inr (.inl f_words_32))), (a10, .inl (cI, 360, .inl f_values_32)), (a11, .inl (cI, 360, .inl f_roots_32)), (a12, .inl (cI, 240, .inl f_ends_32))] H locs := hw
    have hy := Option.some.inj hF0
    subst hy
    exact hret dX8_build_50 (by decide) (by decide) hw
  have hJ34 : ∀ (x_built_34 : Int32) (x_seed_34 : Int32) (x_graphSeed_34 : Int32) (x_bits_34 : Int32) (x_bucketMany_34 : Int32) (x_width_34 : Int32) (x_thrown_34 : Int32) (f_sizes_34 : Nat → Int32) (f_shift_34 : Nat → Int32) (f_owner_34 : Nat → Int32) (f_prints_34 : Nat → Int32) (f_some_34 : Nat → Int32) (f_triedShift_34 : Nat → Int32) (f_triedOwner_34 : Nat → Int32) (f_words_34 : Nat → Int64) (f_values_34 : Nat → Int32) (f_roots_34 : Nat → Int32) (f_ends_34 : Nat → Int32), J_X8_build_25 N x_built_34 x_seed_34 x_graphSeed_34 x_bits_34 x_bucketMany_34 x_width_34 x_thrown_34 f_sizes_34 f_shift_34 f_owner_34 f_prints_34 f_some_34 f_triedShift_34 f_triedOwner_34 f_words_34 f_values_34 f_roots_34 f_ends_34 = some x → ∀ (H : Heap) (locs : List Loc) (ls : Array Slot), kk_wd G A s.heap [(a0, .inr (8, [.ref a1, .int x_many, .int x_built_34, .int x_seed_34, .int x_graphSeed_34, .int x_bits_34, .int x_bucketMany_34, .int x_width_34, .ref a2, .ref a3, .ref a4, .ref a5, .ref a6, .ref a7, .ref a8, .ref a9, .ref a10, .ref a11, .ref a12, .int x_thrown_34])), (a1, .inl (cI, 120, .inl f_keys)), (a2, .inl (cI, 120, .inl f_sizes_34)), (a3, .inl (cI, 120, .inl f_shift_34)), (a4, .inl (cI, 120, .inl f_owner_34)), (a5, .inl (cI, 120, .inl f_prints_34)), (a6, .inl (cI, 120, .inl f_some_34)), (a7, .inl (cI, 120, .inl f_triedShift_34)), (a8, .inl (cI, 120, .inl f_triedOwner_34)), (a9, .inl (cJ, 20, .inr (.inl f_words_34))), (a10, .inl (cI, 360, .inl f_values_34)), (a11, .inl (cI, 360, .inl f_roots_34)), (a12, .inl (cI, 240, .inl f_ends_34))] H locs → lv_has ls 7 [(0, .ref a0)] → W p l e (kk_rm 7 0 0 166) s m ([.ref a0, .int i1, .int i2] : List Value).toArray below meth c H locs 0 0 Q (F0 m 25 ls []) := by
    intro x_built_34 x_seed_34 x_graphSeed_34 x_bits_34 x_bucketMany_34 x_width_34 x_thrown_34 f_sizes_34 f_shift_34 f_owner_34 f_prints_34 f_some_34 f_triedShift_34 f_triedOwner_34 f_words_34 f_values_34 f_roots_34 f_ends_34 hF0 H locs ls hw hl
    unfold J_X8_build_25 at hF0
    refine lv_aload_n hx hb dX8_build_25 rfl (lv_at hl 0 rfl) ?_
    refine lv_iconst (v := 1) hx hb dX8_build_26 (by decide) ?_
    obtain ⟨v35, ev35, hF0⟩ := kk_bind hF0
    refine kk_callI 0 0 hw (kk_runV (As := [.int 1]) (rest := []) F hw hl.1 (c_X8_fails l G cI cJ ad a0 a1 a2 a3 a4 a5 a6 a7 a8 a9 a10 a11 a12 x_many x_built_34 x_seed_34 x_graphSeed_34 x_bits_34 x_bucketMany_34 x_width_34 x_thrown_34 1 N v35 ev35 H.size) gX8_build_X8_fails rfl ⟨rfl, md_X8_fails⟩ ⟨Nat.le_of_ble_eq_true rfl, Nat.le_of_ble_eq_true rfl⟩ ⟨Nat.le_of_ble_eq_true rfl, Nat.le_of_ble_eq_true rfl⟩ 0 8 rfl rfl rfl rfl (Nat.le_of_ble_eq_true rfl) dX8_build_27) ⟨rfl, rfl⟩ [0] (by decide) rfl rfl (fun H locs hw => ?_)
    have hw : kk_wd G A s.heap [(a0, .inr (8, [.ref a1, .int x_many, .int x_built_34, .int x_seed_34, .int x_graphSeed_34, .int x_bits_34, .int x_bucketMany_34, .int x_width_34, .ref a2, .ref a3, .ref a4, .ref a5, .ref a6, .ref a7, .ref a8, .ref a9, .ref a10, .ref a11, .ref a12, .int v35.2])), (a1, .inl (cI, 120, .inl f_keys)), (a2, .inl (cI, 120, .inl f_sizes_34)), (a3, .inl (cI, 120, .inl f_shift_34)), (a4, .inl (cI, 120, .inl f_owner_34)), (a5, .inl (cI, 120, .inl f_prints_34)), (a6, .inl (cI, 120, .inl f_some_34)), (a7, .inl (cI, 120, .inl f_triedShift_34)), (a8, .inl (cI, 120, .inl f_triedOwner_34)), (a9, .inl (cJ, 20, .inr (.inl f_words_34))), (a10, .inl (cI, 360, .inl f_values_34)), (a11, .inl (cI, 360, .inl f_roots_34)), (a12, .inl (cI, 240, .inl f_ends_34))] H locs := hw
    have hy := Option.some.inj hF0
    subst hy
    exact hret dX8_build_30 (by decide) (by decide) hw
  refine lv_aload_n hx hb dX8_build_0 rfl (lv_at hl 0 rfl) ?_
  refine lv_iconst (v := 0) hx hb dX8_build_1 (by decide) ?_
  refine kk_put F hw ui_X8_build_X8 tyX8 tyX8_ok nmX8 0 rfl rfl 19 (by decide) m_X8_build_Cond_fieldLink_RX8_47_PerfectPewModel_thrown_I_ rfl rfl rfl (Nat.le_of_ble_eq_true rfl) dX8_build_2 (fun H locs hw => ?_)
  have hw : kk_wd G A s.heap [(a0, .inr (8, [.ref a1, .int x_many, .int x_built, .int x_seed, .int x_graphSeed, .int x_bits, .int x_bucketMany, .int x_width, .ref a2, .ref a3, .ref a4, .ref a5, .ref a6, .ref a7, .ref a8, .ref a9, .ref a10, .ref a11, .ref a12, .int 0])), (a1, .inl (cI, 120, .inl f_keys)), (a2, .inl (cI, 120, .inl f_sizes)), (a3, .inl (cI, 120, .inl f_shift)), (a4, .inl (cI, 120, .inl f_owner)), (a5, .inl (cI, 120, .inl f_prints)), (a6, .inl (cI, 120, .inl f_some)), (a7, .inl (cI, 120, .inl f_triedShift)), (a8, .inl (cI, 120, .inl f_triedOwner)), (a9, .inl (cJ, 20, .inr (.inl f_words))), (a10, .inl (cI, 360, .inl f_values)), (a11, .inl (cI, 360, .inl f_roots)), (a12, .inl (cI, 240, .inl f_ends))] H locs := hw
  refine lv_iload_n hx hb dX8_build_5 rfl (lv_at hl 1 rfl) ?_
  refine lv_iconst (v := 1) hx hb dX8_build_6 (by decide) ?_
  refine lv_bipush (v := 6) hx hb dX8_build_7 (by decide) ?_
  obtain ⟨v36, ev36, hF0⟩ := kk_bind hF0
  refine kk_callI 0 0 hw (kk_runS (As := [.int i1, .int 1, .int 6]) (rest := []) F hw hl.1 (c_X8_in l G cI cJ ad i1 1 6 N v36 ev36 H.size) gX8_build_X8_in rfl md_X8_in ⟨Nat.le_of_ble_eq_true rfl, Nat.le_of_ble_eq_true rfl⟩ ⟨Nat.le_of_ble_eq_true rfl, Nat.le_of_ble_eq_true rfl⟩ rfl (Nat.le_of_ble_eq_true rfl) dX8_build_9) ⟨rfl, rfl⟩ [] (by decide) rfl rfl (fun H locs hw => ?_)
  refine lv_if_eq (tgt := 25) hx hb dX8_build_12 (by decide) (fun c37 => ?_) (fun c37 => ?_)
  · have hF0 := (if_pos c37).symm.trans hF0
    exact hJ34 x_built x_seed x_graphSeed x_bits x_bucketMany x_width 0 f_sizes f_shift f_owner f_prints f_some f_triedShift f_triedOwner f_words f_values f_roots f_ends hF0 _ _ _ hw (lv_sub hl [0] rfl)
  · have hF0 := (if_neg c37).symm.trans hF0
    refine lv_iload_n hx hb dX8_build_15 rfl (lv_at hl 2 rfl) ?_
    refine lv_iconst (v := 1) hx hb dX8_build_16 (by decide) ?_
    refine lv_bipush (v := 12) hx hb dX8_build_17 (by decide) ?_
    obtain ⟨v38, ev38, hF0⟩ := kk_bind hF0
    refine kk_callI 0 0 hw (kk_runS (As := [.int i2, .int 1, .int 12]) (rest := []) F hw hl.1 (c_X8_in l G cI cJ ad i2 1 12 N v38 ev38 H.size) gX8_build_X8_in rfl md_X8_in ⟨Nat.le_of_ble_eq_true rfl, Nat.le_of_ble_eq_true rfl⟩ ⟨Nat.le_of_ble_eq_true rfl, Nat.le_of_ble_eq_true rfl⟩ rfl (Nat.le_of_ble_eq_true rfl) dX8_build_19) ⟨rfl, rfl⟩ [] (by decide) rfl rfl (fun H locs hw => ?_)
    refine lv_if_ne (tgt := 31) hx hb dX8_build_22 (by decide) (fun c39 => ?_) (fun c39 => ?_)
    · have hF0 := (if_neg c39).symm.trans hF0
      refine lv_aload_n hx hb dX8_build_31 rfl (lv_at hl 0 rfl) ?_
      refine kk_get (T := TX8) F hw ui_X8_build_X8 0 rfl rfl 2 (by decide) m_X8_build_Cond_fieldLink_RX8_114_PerfectPewModel_built_Z_ rfl dX8_build_32 ?_
      refine lv_if_ne (tgt := 45) hx hb dX8_build_35 (by decide) (fun c40 => ?_) (fun c40 => ?_)
      · have hF0 := (if_neg c40).symm.trans hF0
        exact hJ32 x_built x_seed x_graphSeed x_bits x_bucketMany x_width 0 f_sizes f_shift f_owner f_prints f_some f_triedShift f_triedOwner f_words f_values f_roots f_ends hF0 _ _ _ hw (lv_sub hl [0] rfl)
      · have hF0 := (if_pos c40).symm.trans hF0
        refine lv_aload_n hx hb dX8_build_38 rfl (lv_at hl 0 rfl) ?_
        refine kk_get (T := TX8) F hw ui_X8_build_X8 0 rfl rfl 1 (by decide) m_X8_build_Cond_fieldLink_RX8_99_PerfectPewModel_many_I_ rfl dX8_build_39 ?_
        refine lv_if_ne (tgt := 51) hx hb dX8_build_42 (by decide) (fun c41 => ?_) (fun c41 => ?_)
        · have hF0 := (if_neg c41).symm.trans hF0
          refine lv_aload_n hx hb dX8_build_51 rfl (lv_at hl 0 rfl) ?_
          refine kk_get (T := TX8) F hw ui_X8_build_X8 0 rfl rfl 1 (by decide) m_X8_build_Cond_fieldLink_RX8_99_PerfectPewModel_many_I_ rfl dX8_build_52 ?_
          refine lv_iload_n hx hb dX8_build_55 rfl (lv_at hl 1 rfl) ?_
          refine lv_iadd hx hb dX8_build_56 ?_
          refine lv_iconst (v := 1) hx hb dX8_build_57 (by decide) ?_
          refine lv_isub hx hb dX8_build_58 ?_
          refine lv_iload_n hx hb dX8_build_59 rfl (lv_at hl 1 rfl) ?_
          obtain ⟨u42, eu42, hF0⟩ := kk_bind hF0
          refine lv_idiv hx hb dX8_build_60 (kk_nz_ok eu42) ?_
          refine lv_istore_n (lv' := [(3, .int (kk_div ((x_many + i1) - 1) i1)), (0, .ref a0), (1, .int i1), (2, .int i2)]) hx hb dX8_build_61 rfl hl (by decide) rfl (fun ls hl => ?_)
          refine lv_iconst (v := 0) hx hb dX8_build_62 (by decide) ?_
          refine lv_istore (lv' := [(4, .int 0), (3, .int (kk_div ((x_many + i1) - 1) i1)), (0, .ref a0), (1, .int i1), (2, .int i2)]) hx hb dX8_build_63 hl (by decide) rfl (fun ls hl => ?_)
          obtain ⟨z43, hz44, hF0⟩ := kk_bind hF0
          have hL44 : ∀ (n44 : Nat) (f_some_44 : Nat → Int32) (f_triedShift_44 : Nat → Int32) (f_triedOwner_44 : Nat → Int32) (i4_44 : Int32), kk_iter (fun (σ : ((Nat → Int32) × (Nat → Int32) × (Nat → Int32) × Int32)) => L_X8_build_65 N x_many f_keys (kk_div ((x_many + i1) - 1) i1) σ.1 σ.2.1 σ.2.2.1 σ.2.2.2) n44 (f_some_44, f_triedShift_44, f_triedOwner_44, i4_44) = some z43 → ∀ (H : Heap) (locs : List Loc) (ls : Array Slot), kk_wd G A s.heap [(a0, .inr (8, [.ref a1, .int x_many, .int x_built, .int x_seed, .int x_graphSeed, .int x_bits, .int x_bucketMany, .int x_width, .ref a2, .ref a3, .ref a4, .ref a5, .ref a6, .ref a7, .ref a8, .ref a9, .ref a10, .ref a11, .ref a12, .int 0])), (a1, .inl (cI, 120, .inl f_keys)), (a2, .inl (cI, 120, .inl f_sizes)), (a3, .inl (cI, 120, .inl f_shift)), (a4, .inl (cI, 120, .inl f_owner)), (a5, .inl (cI, 120, .inl f_prints)), (a6, .inl (cI, 120, .inl f_some_44)), (a7, .inl (cI, 120, .inl f_triedShift_44)), (a8, .inl (cI, 120, .inl f_triedOwner_44)), (a9, .inl (cJ, 20, .inr (.inl f_words))), (a10, .inl (cI, 360, .inl f_values)), (a11, .inl (cI, 360, .inl f_roots)), (a12, .inl (cI, 240, .inl f_ends))] H locs → lv_has ls 7 [(0, .ref a0), (2, .int i2), (3, .int (kk_div ((x_many + i1) - 1) i1)), (4, .int i4_44)] → W p l e (kk_rm 7 0 0 166) s m ([.ref a0, .int i1, .int i2] : List Value).toArray below meth c H locs 0 0 Q (F0 m 65 ls []) := by
            intro n44
            induction n44 with
            | zero => intro f_some_44 f_triedShift_44 f_triedOwner_44 i4_44 h; exact kk_iter0 h
            | succ n44 ih44 =>
              intro f_some_44 f_triedShift_44 f_triedOwner_44 i4_44 hq H locs ls hw hl
              obtain ⟨y44, hF1, hI1⟩ := kk_iterS hq
              have hF1 : L_X8_build_65 N x_many f_keys (kk_div ((x_many + i1) - 1) i1) f_some_44 f_triedShift_44 f_triedOwner_44 i4_44 = some y44 := hF1
              unfold L_X8_build_65 at hF1
              refine lv_iload hx hb dX8_build_65 (lv_at hl 3 rfl) ?_
              refine lv_bipush (v := 40) hx hb dX8_build_67 (by decide) ?_
              refine lv_icmp_ge (tgt := 88) hx hb dX8_build_69 (by decide) (fun c45 => ?_) (fun c45 => ?_)
              · have hF1 := (if_pos c45).symm.trans hF1
                have hy := Option.some.inj hF1
                subst hy
                have hz := Option.some.inj hI1
                subst hz
                exact hJ25 x_built x_seed x_graphSeed x_bits x_bucketMany x_width 0 f_sizes f_shift f_owner f_prints f_some_44 f_triedShift_44 f_triedOwner_44 f_words f_values f_roots f_ends (kk_div ((x_many + i1) - 1) i1) i4_44 hF0 _ _ _ hw (lv_sub hl [0, 1, 2, 3] rfl)
              · have hF1 := (if_neg c45).symm.trans hF1
                refine lv_aload_n hx hb dX8_build_72 rfl (lv_at hl 0 rfl) ?_
                refine lv_iload hx hb dX8_build_73 (lv_at hl 3 rfl) ?_
                refine lv_iload_n hx hb dX8_build_75 rfl (lv_at hl 2 rfl) ?_
                obtain ⟨v46, ev46, hF1⟩ := kk_bind hF1
                refine kk_callI 0 0 hw (kk_runV (As := [.int i4_44, .int (kk_div ((x_many + i1) - 1) i1)]) (rest := []) F hw hl.1 (c_X8_displaces l G cI cJ ad a0 a1 a2 a3 a4 a5 a6 a7 a8 a9 a10 a11 a12 x_many x_built x_seed x_graphSeed x_bits x_bucketMany x_width 0 f_keys f_some_44 f_triedShift_44 f_triedOwner_44 i4_44 (kk_div ((x_many + i1) - 1) i1) N v46 ev46 H.size) gX8_build_X8_displaces rfl ⟨rfl, md_X8_displaces⟩ ⟨Nat.le_of_ble_eq_true rfl, Nat.le_of_ble_eq_true rfl⟩ ⟨Nat.le_of_ble_eq_true rfl, Nat.le_of_ble_eq_true rfl⟩ 0 8 rfl rfl rfl rfl (Nat.le_of_ble_eq_true rfl) dX8_build_76) ⟨rfl, rfl⟩ [0, 1, 6, 7, 8] (by decide) rfl rfl (fun H locs hw => ?_)
                have hw : kk_wd G A s.heap [(a0, .inr (8, [.ref a1, .int x_many, .int x_built, .int x_seed, .int x_graphSeed, .int x_bits, .int x_bucketMany, .int x_width, .ref a2, .ref a3, .ref a4, .ref a5, .ref a6, .ref a7, .ref a8, .ref a9, .ref a10, .ref a11, .ref a12, .int 0])), (a1, .inl (cI, 120, .inl f_keys)), (a2, .inl (cI, 120, .inl f_sizes)), (a3, .inl (cI, 120, .inl f_shift)), (a4, .inl (cI, 120, .inl f_owner)), (a5, .inl (cI, 120, .inl f_prints)), (a6, .inl (cI, 120, .inl v46.2.1)), (a7, .inl (cI, 120, .inl v46.2.2.1)), (a8, .inl (cI, 120, .inl v46.2.2.2)), (a9, .inl (cJ, 20, .inr (.inl f_words))), (a10, .inl (cI, 360, .inl f_values)), (a11, .inl (cI, 360, .inl f_roots)), (a12, .inl (cI, 240, .inl f_ends))] H locs := hw
                refine lv_if_ne (tgt := 88) hx hb dX8_build_79 (by decide) (fun c47 => ?_) (fun c47 => ?_)
                · have hF1 := (if_neg c47).symm.trans hF1
                  have hy := Option.some.inj hF1
                  subst hy
                  have hz := Option.some.inj hI1
                  subst hz
                  exact hJ25 x_built x_seed x_graphSeed x_bits x_bucketMany x_width 0 f_sizes f_shift f_owner f_prints v46.2.1 v46.2.2.1 v46.2.2.2 f_words f_values f_roots f_ends (kk_div ((x_many + i1) - 1) i1) i4_44 hF0 _ _ _ hw (lv_sub hl [0, 1, 2, 3] rfl)
                · have hF1 := (if_pos c47).symm.trans hF1
                  refine lv_iinc (v := (i4_44 + 1)) (lv' := [(4, .int (i4_44 + 1)), (0, .ref a0), (2, .int i2), (3, .int (kk_div ((x_many + i1) - 1) i1))]) hx hb dX8_build_82 hl (k := 3) rfl rfl (by decide) rfl (fun ls hl => ?_)
                  refine lv_goto (tgt := 65) hx hb dX8_build_85 (by decide) ?_
                  have hy := Option.some.inj hF1
                  subst hy
                  exact ih44 v46.2.1 v46.2.2.1 v46.2.2.2 (i4_44 + 1) hI1 _ _ _ hw (lv_sub hl [1, 2, 3, 0] rfl)
          exact hL44 N f_some f_triedShift f_triedOwner 0 hz44 _ _ _ hw (lv_sub hl [2, 4, 1, 0] rfl)
        · have hF0 := (if_pos c41).symm.trans hF0
          exact hJ32 x_built x_seed x_graphSeed x_bits x_bucketMany x_width 0 f_sizes f_shift f_owner f_prints f_some f_triedShift f_triedOwner f_words f_values f_roots f_ends hF0 _ _ _ hw (lv_sub hl [0] rfl)
    · have hF0 := (if_pos c39).symm.trans hF0
      exact hJ34 x_built x_seed x_graphSeed x_bits x_bucketMany x_width 0 f_sizes f_shift f_owner f_prints f_some f_triedShift f_triedOwner f_words f_values f_roots f_ends hF0 _ _ _ hw (lv_sub hl [0] rfl)
