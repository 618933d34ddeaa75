/-! pure functions, out of the code by program (wip/whole/gen.py) -/
def L_J7_fill_53178_5 (N : Nat) (n_arr : Nat) (i1 : Int32) (i3 : Int32) (f_arr : Nat → Int32) (i2 : Int32) : Option (((Nat → Int32) × Int32) ⊕ (Nat → Int32)) := if i3 ≤ i2 then some (.inr f_arr) else (kk_wr n_arr f_arr i2 i1).bind fun w2 => some (.inl (w2, (i2 + 1)))
def J_J7_fill_53178_20 (N : Nat) (f_arr : Nat → Int32) : Option (Nat → Int32) := some f_arr
def F_J7_fill_53178 (N : Nat) (n_arr : Nat) (f_arr : Nat → Int32) (i1 : Int32) : Option (Nat → Int32) := (kk_iter (fun (σ : ((Nat → Int32) × Int32)) => L_J7_fill_53178_5 N n_arr i1 (nI n_arr) σ.1 σ.2) N (f_arr, 0)).bind fun z1 => J_J7_fill_53178_20 N z1
def F_X6_fill (N : Nat) (n_cells : Nat) (f_cells : Nat → Int32) (i1 : Int32) : Option (Nat → Int32) := (F_J7_fill_53178 N n_cells f_cells i1).bind fun v1 => some v1
def J_X6_get_23 (N : Nat) (s0 : Int32) : Option Int32 := some s0
def J_X6_get_22 (N : Nat) : Option Int32 := J_X6_get_23 N 0
def F_X6_get (N : Nat) (n_cells : Nat) (f_cells : Nat → Int32) (i1 : Int32) : Option Int32 := if i1 < 0 then J_X6_get_22 N else if (nI n_cells) ≤ i1 then J_X6_get_22 N else (kk_rd n_cells f_cells i1).bind fun v3 => J_X6_get_23 N v3
def F_X4_at (N : Nat) (f_places : Nat → Int32) (i1 : Int32) : Option Int32 := (F_X6_get N 120 f_places i1).bind fun v1 => some v1
def J_X6_set_20 (N : Nat) (f_cells : Nat → Int32) : Option (Nat → Int32) := some f_cells
def F_X6_set (N : Nat) (n_cells : Nat) (f_cells : Nat → Int32) (i1 : Int32) (i2 : Int32) : Option (Nat → Int32) := if i1 < 0 then J_X6_set_20 N f_cells else if (nI n_cells) ≤ i1 then J_X6_set_20 N f_cells else (kk_wr n_cells f_cells i1 i2).bind fun w3 => J_X6_set_20 N w3
def J_X4_rankOf_43 (N : Nat) (i2 : Int32) (i3 : Int32) : Option ((Int32 × Int32) ⊕ Int32) := some (.inl (i2, i3))
def L_X4_rankOf_7 (N : Nat) (f_places : Nat → Int32) (i1 : Int32) (i2 : Int32) (i3 : Int32) : Option ((Int32 × Int32) ⊕ Int32) := if i3 ≤ i2 then some (.inr i2) else (F_X6_get N 120 f_places ((i2 + i3) >>> (1 &&& 31))).bind fun v2 => if i1 ≤ v2 then J_X4_rankOf_43 N i2 ((i2 + i3) >>> (1 &&& 31)) else J_X4_rankOf_43 N (((i2 + i3) >>> (1 &&& 31)) + 1) i3
def J_X4_rankOf_46 (N : Nat) (i2 : Int32) : Option Int32 := some i2
def F_X4_rankOf (N : Nat) (x_size : Int32) (f_places : Nat → Int32) (i1 : Int32) : Option Int32 := (kk_iter (fun (σ : (Int32 × Int32)) => L_X4_rankOf_7 N f_places i1 σ.1 σ.2) N (0, x_size)).bind fun z1 => J_X4_rankOf_46 N z1
def J_X4_holds_31 (N : Nat) (s0 : Int32) : Option Int32 := (kk_bl s0).bind fun _ => some s0
def J_X4_holds_30 (N : Nat) : Option Int32 := J_X4_holds_31 N 0
def F_X4_holds (N : Nat) (x_size : Int32) (f_places : Nat → Int32) (i1 : Int32) : Option Int32 := (F_X4_rankOf N x_size f_places i1).bind fun v1 => if x_size ≤ v1 then J_X4_holds_30 N else (F_X6_get N 120 f_places v1).bind fun v3 => if v3 = i1 then J_X4_holds_31 N 1 else J_X4_holds_30 N
def L_X4_insert_11 (N : Nat) (i2 : Int32) (f_places : Nat → Int32) (i3 : Int32) : Option (((Nat → Int32) × Int32) ⊕ (Nat → Int32)) := if i3 ≤ i2 then some (.inr f_places) else (F_X6_get N 120 f_places (i3 - 1)).bind fun v2 => (F_X6_set N 120 f_places i3 v2).bind fun v3 => some (.inl (v3, (i3 + (-1))))
def J_X4_insert_40 (N : Nat) (x_size : Int32) (f_places : Nat → Int32) (i1 : Int32) (i2 : Int32) : Option (Int32 × (Nat → Int32)) := (F_X6_set N 120 f_places i2 i1).bind fun v1 => some ((x_size + 1), v1)
def F_X4_insert (N : Nat) (x_size : Int32) (f_places : Nat → Int32) (i1 : Int32) : Option (Int32 × (Nat → Int32)) := (F_X4_rankOf N x_size f_places i1).bind fun v1 => (kk_iter (fun (σ : ((Nat → Int32) × Int32)) => L_X4_insert_11 N v1 σ.1 σ.2) N (f_places, x_size)).bind fun z2 => J_X4_insert_40 N x_size z2 i1 v1
def L_X4_delete_8 (N : Nat) (x_size : Int32) (f_places : Nat → Int32) (i2 : Int32) : Option (((Nat → Int32) × Int32) ⊕ (Nat → Int32)) := if x_size ≤ i2 then some (.inr f_places) else (F_X6_get N 120 f_places i2).bind fun v2 => (F_X6_set N 120 f_places (i2 - 1) v2).bind fun v3 => some (.inl (v3, (i2 + 1)))
def J_X4_delete_40 (N : Nat) (x_size : Int32) (f_places : Nat → Int32) : Option (Int32 × (Nat → Int32)) := some ((x_size - 1), f_places)
def F_X4_delete (N : Nat) (x_size : Int32) (f_places : Nat → Int32) (i1 : Int32) : Option (Int32 × (Nat → Int32)) := (F_X4_rankOf N x_size f_places i1).bind fun v1 => (kk_iter (fun (σ : ((Nat → Int32) × Int32)) => L_X4_delete_8 N x_size σ.1 σ.2) N (f_places, (v1 + 1))).bind fun z2 => J_X4_delete_40 N x_size z2
theorem nl_25 : Cond.methodLinkNest "PerfectPew$KeyList" 20 ⟨"PerfectPew$Row", "get", "(I)I"⟩ "PerfectPew" ∈ kk_nl := List.mem_of_getElem? (i := 25) rfl
theorem nl_27 : Cond.methodLinkNest "PerfectPew$KeyList" 31 ⟨"PerfectPew$Row", "set", "(II)V"⟩ "PerfectPew" ∈ kk_nl := List.mem_of_getElem? (i := 27) rfl
theorem md_J7_fill_53178 : (yJ7_fill_53178).cls ≠ "java/lang/invoke/MethodHandle" ∧ (yJ7_fill_53178).cls ≠ "java/lang/invoke/VarHandle" ∧ (parseMethodDescriptor (yJ7_fill_53178).desc).map (fun d => d.parameters.length) = some 2 := by decide +kernel
theorem md_X6_get : (yX6_get).cls ≠ "java/lang/invoke/MethodHandle" ∧ (yX6_get).cls ≠ "java/lang/invoke/VarHandle" ∧ (parseMethodDescriptor (yX6_get).desc).map (fun d => d.parameters.length) = some 1 := by decide +kernel
theorem md_X4_rankOf : (yX4_rankOf).cls ≠ "java/lang/invoke/MethodHandle" ∧ (yX4_rankOf).cls ≠ "java/lang/invoke/VarHandle" ∧ (parseMethodDescriptor (yX4_rankOf).desc).map (fun d => d.parameters.length) = some 1 := by decide +kernel
theorem md_X6_set : (yX6_set).cls ≠ "java/lang/invoke/MethodHandle" ∧ (yX6_set).cls ≠ "java/lang/invoke/VarHandle" ∧ (parseMethodDescriptor (yX6_set).desc).map (fun d => d.parameters.length) = some 2 := by decide +kernel
set_option maxRecDepth 100000 in
set_option maxHeartbeats 4000000 in
theorem c_J7_fill_53178 (l : Launch) (G : va_G) (cI cJ : ClassId) (ad : Nat → Nat) (a0 : Nat) (n_arr : Nat) (f_arr : Nat → Int32) (i1 : Int32) (N : Nat) (x : (Nat → Int32)) (hF0 : F_J7_fill_53178 N n_arr f_arr i1 = some x) : kk_V l yJ7_fill_53178 wsJ7_fill_53178 0 0 0 0 [.ref a0, .int i1] G cI cJ ad [(a0, .inl (cI, n_arr, .inl f_arr))] [(a0, .inl (cI, n_arr, .inl x))] := by
  refine kk_ofV (cc := cJ7_fill_53178) (maxL := 4) (by decide) rfl (Nat.le_of_ble_eq_true rfl) ?_
  intro p e s m below meth c A Q ls H locs hx hb hml hown hts hE hw hl hret
  have F : kk_at p m c cJ7_fill_53178 4 s _ wsJ7_fill_53178 RJ7 G cI cJ ad A := ⟨⟨hx, hb, hml, hown, hts⟩, hE⟩
  have hl : lv_has ls 4 [(0, .ref a0), (1, .int i1)] := hl
  unfold F_J7_fill_53178 at hF0
  have hJ1 : ∀ (f_arr_1 : Nat → Int32), J_J7_fill_53178_20 N f_arr_1 = some x → ∀ (H : Heap) (locs : List Loc) (ls : Array Slot), kk_wd G A s.heap [(a0, .inl (cI, n_arr, .inl f_arr_1))] H locs → lv_has ls 4 [] → W p l e (kk_rm 0 0 0 0) s m ([.ref a0, .int i1] : List Value).toArray below meth c H locs 0 0 Q (F0 m 20 ls []) := by
    intro f_arr_1 hF0 H locs ls hw hl
    unfold J_J7_fill_53178_20 at hF0
    have hy := Option.some.inj hF0
    subst hy
    exact hret dJ7_fill_53178_20 (by decide) (by decide) hw
  refine lv_iconst (v := 0) hx hb dJ7_fill_53178_0 (by decide) ?_
  refine lv_istore_n (lv' := [(2, .int 0), (0, .ref a0), (1, .int i1)]) hx hb dJ7_fill_53178_1 rfl hl (by decide) rfl (fun ls hl => ?_)
  refine lv_aload_n hx hb dJ7_fill_53178_2 rfl (lv_at hl 1 rfl) ?_
  refine kk_alenI F hw 0 rfl dJ7_fill_53178_3 ?_
  refine lv_istore_n (lv' := [(3, .int (nI n_arr)), (2, .int 0), (0, .ref a0), (1, .int i1)]) hx hb dJ7_fill_53178_4 rfl hl (by decide) rfl (fun ls hl => ?_)
  obtain ⟨z2, hz3, hF0⟩ := kk_bind hF0
  have hL3 : ∀ (n3 : Nat) (f_arr_3 : Nat → Int32) (i2_3 : Int32), kk_iter (fun (σ : ((Nat → Int32) × Int32)) => L_J7_fill_53178_5 N n_arr i1 (nI n_arr) σ.1 σ.2) n3 (f_arr_3, i2_3) = some z2 → ∀ (H : Heap) (locs : List Loc) (ls : Array Slot), kk_wd G A s.heap [(a0, .inl (cI, n_arr, .inl f_arr_3))] H locs → lv_has ls 4 [(0, .ref a0), (1, .int i1), (2, .int i2_3), (3, .int (nI n_arr))] → W p l e (kk_rm 0 0 0 0) s m ([.ref a0, .int i1] : List Value).toArray below meth c H locs 0 0 Q (F0 m 5 ls []) := by
    intro n3
    induction n3 with
    | zero => intro f_arr_3 i2_3 h; exact kk_iter0 h
    | succ n3 ih3 =>
      intro f_arr_3 i2_3 hq H locs ls hw hl
      obtain ⟨y3, hF1, hI1⟩ := kk_iterS hq
      have hF1 : L_J7_fill_53178_5 N n_arr i1 (nI n_arr) f_arr_3 i2_3 = some y3 := hF1
      unfold L_J7_fill_53178_5 at hF1
      refine lv_iload_n hx hb dJ7_fill_53178_5 rfl (lv_at hl 2 rfl) ?_
      refine lv_iload_n hx hb dJ7_fill_53178_6 rfl (lv_at hl 3 rfl) ?_
      refine lv_icmp_ge (tgt := 20) hx hb dJ7_fill_53178_7 (by decide) (fun c4 => ?_) (fun c4 => ?_)
      · have hF1 := (if_pos c4).symm.trans hF1
        have hy := Option.some.inj hF1
        subst hy
        have hz := Option.some.inj hI1
        subst hz
        exact hJ1 f_arr_3 hF0 _ _ _ hw (lv_sub hl [] rfl)
      · have hF1 := (if_neg c4).symm.trans hF1
        refine lv_aload_n hx hb dJ7_fill_53178_10 rfl (lv_at hl 0 rfl) ?_
        refine lv_iload_n hx hb dJ7_fill_53178_11 rfl (lv_at hl 2 rfl) ?_
        refine lv_iload_n hx hb dJ7_fill_53178_12 rfl (lv_at hl 1 rfl) ?_
        obtain ⟨w5, ew5, hF1⟩ := kk_bind hF1
        refine kk_iast F hw 0 rfl ew5 dJ7_fill_53178_13 (fun H locs hw => ?_)
        have hw : kk_wd G A s.heap [(a0, .inl (cI, n_arr, .inl w5))] H locs := hw
        refine lv_iinc (v := (i2_3 + 1)) (lv' := [(2, .int (i2_3 + 1)), (0, .ref a0), (1, .int i1), (3, .int (nI n_arr))]) hx hb dJ7_fill_53178_14 hl (k := 2) rfl rfl (by decide) rfl (fun ls hl => ?_)
        refine lv_goto (tgt := 5) hx hb dJ7_fill_53178_17 (by decide) ?_
        have hy := Option.some.inj hF1
        subst hy
        exact ih3 w5 (i2_3 + 1) hI1 _ _ _ hw (lv_sub hl [1, 2, 0, 3] rfl)
  exact hL3 N f_arr 0 hz3 _ _ _ hw (lv_sub hl [2, 3, 1, 0] rfl)
theorem ui_X6_fill_X6 : ∀ w ∈ u_ws RX6 TX6 1, w ∈ wsX6_fill := by decide +kernel
theorem m_X6_fill_Cond_fieldLink_RX6_13_PerfectPew_Row_cells_I_ : Cond.fieldLink RX6 13 "PerfectPew$Row" "cells" "[I" ∈ wsX6_fill := by decide +kernel
set_option maxRecDepth 100000 in
set_option maxHeartbeats 4000000 in
theorem c_X6_fill (l : Launch) (G : va_G) (cI cJ : ClassId) (ad : Nat → Nat) (a0 a1 : Nat) (n_cells : Nat) (f_cells : Nat → Int32) (i1 : Int32) (N : Nat) (x : (Nat → Int32)) (hF0 : F_X6_fill N n_cells f_cells i1 = some x) : kk_V l yX6_fill wsX6_fill 1 0 0 23 [.ref a0, .int i1] G cI cJ ad [(a0, .inr (6, [.ref a1])), (a1, .inl (cI, n_cells, .inl f_cells))] [(a0, .inr (6, [.ref a1])), (a1, .inl (cI, n_cells, .inl x))] := by
  refine kk_ofV (cc := cX6_fill) (maxL := 2) (by decide) rfl (Nat.le_of_ble_eq_true rfl) ?_
  intro p e s m below meth c A Q ls H locs hx hb hml hown hts hE hw hl hret
  have F : kk_at p m c cX6_fill 2 s _ wsX6_fill RX6 G cI cJ ad A := ⟨⟨hx, hb, hml, hown, hts⟩, hE⟩
  have hl : lv_has ls 2 [(0, .ref a0), (1, .int i1)] := hl
  unfold F_X6_fill at hF0
  refine lv_aload_n hx hb dX6_fill_0 rfl (lv_at hl 0 rfl) ?_
  refine kk_get (T := TX6) F hw ui_X6_fill_X6 0 rfl rfl 0 (by decide) m_X6_fill_Cond_fieldLink_RX6_13_PerfectPew_Row_cells_I_ rfl dX6_fill_1 ?_
  refine lv_iload_n hx hb dX6_fill_4 rfl (lv_at hl 1 rfl) ?_
  obtain ⟨v1, ev1, hF0⟩ := kk_bind hF0
  refine kk_callV 0 0 hw (kk_runS (As := [.ref a1, .int i1]) (rest := []) F hw hl.1 (c_J7_fill_53178 l G cI cJ ad a1 n_cells f_cells i1 N v1 ev1 H.size) gX6_fill_J7_fill_53178 rfl md_J7_fill_53178 ⟨Nat.le_of_ble_eq_true rfl, Nat.le_of_ble_eq_true rfl⟩ ⟨Nat.le_of_ble_eq_true rfl, Nat.le_of_ble_eq_true rfl⟩ rfl (Nat.le_of_ble_eq_true rfl) dX6_fill_5) ⟨rfl, rfl⟩ [1] (by decide) rfl rfl (fun H locs hw => ?_)
  have hw : kk_wd G A s.heap [(a0, .inr (6, [.ref a1])), (a1, .inl (cI, n_cells, .inl v1))] H locs := hw
  have hy := Option.some.inj hF0
  subst hy
  exact hret dX6_fill_8 (by decide) (by decide) hw
theorem ui_X6_get_X6 : ∀ w ∈ u_ws RX6 TX6 1, w ∈ wsX6_get := by decide +kernel
theorem m_X6_get_Cond_fieldLink_RX6_13_PerfectPew_Row_cells_I_ : Cond.fieldLink RX6 13 "PerfectPew$Row" "cells" "[I" ∈ wsX6_get := by decide +kernel
set_option maxRecDepth 100000 in
set_option maxHeartbeats 4000000 in
theorem c_X6_get (l : Launch) (G : va_G) (cI cJ : ClassId) (ad : Nat → Nat) (a0 a1 : Nat) (n_cells : Nat) (f_cells : Nat → Int32) (i1 : Int32) (N : Nat) (x : Int32) (hF0 : F_X6_get N n_cells f_cells i1 = some x) : kk_I l yX6_get wsX6_get 0 0 0 0 [.ref a0, .int i1] G cI cJ ad [(a0, .inr (6, [.ref a1])), (a1, .inl (cI, n_cells, .inl f_cells))] x [(a0, .inr (6, [.ref a1])), (a1, .inl (cI, n_cells, .inl f_cells))] := by
  refine kk_ofI (cc := cX6_get) (maxL := 2) (by decide) rfl (Nat.le_of_ble_eq_true rfl) ?_
  intro p e s m below meth c A Q ls H locs hx hb hml hown hts hE hw hl hret
  have F : kk_at p m c cX6_get 2 s _ wsX6_get RX6 G cI cJ ad A := ⟨⟨hx, hb, hml, hown, hts⟩, hE⟩
  have hl : lv_has ls 2 [(0, .ref a0), (1, .int i1)] := hl
  unfold F_X6_get at hF0
  have hJ1 : ∀ (s0_1 : Int32), J_X6_get_23 N s0_1 = some x → ∀ (H : Heap) (locs : List Loc) (ls : Array Slot), kk_wd G A s.heap [(a0, .inr (6, [.ref a1])), (a1, .inl (cI, n_cells, .inl f_cells))] H locs → lv_has ls 2 [] → W p l e (kk_rm 0 0 0 0) s m ([.ref a0, .int i1] : List Value).toArray below meth c H locs 0 0 Q (F0 m 23 ls [.int s0_1]) := by
    intro s0_1 hF0 H locs ls hw hl
    unfold J_X6_get_23 at hF0
    have hy := Option.some.inj hF0
    subst hy
    exact hret dX6_get_23 (by decide) (by decide) hw
  have hJ2 : ∀ (_ : Unit), J_X6_get_22 N = some x → ∀ (H : Heap) (locs : List Loc) (ls : Array Slot), kk_wd G A s.heap [(a0, .inr (6, [.ref a1])), (a1, .inl (cI, n_cells, .inl f_cells))] H locs → lv_has ls 2 [] → W p l e (kk_rm 0 0 0 0) s m ([.ref a0, .int i1] : List Value).toArray below meth c H locs 0 0 Q (F0 m 22 ls []) := by
    intro _ hF0 H locs ls hw hl
    unfold J_X6_get_22 at hF0
    refine lv_iconst (v := 0) hx hb dX6_get_22 (by decide) ?_
    exact hJ1 0 hF0 _ _ _ hw (lv_sub hl [] rfl)
  refine lv_iload_n hx hb dX6_get_0 rfl (lv_at hl 1 rfl) ?_
  refine lv_if_lt (tgt := 22) hx hb dX6_get_1 (by decide) (fun c3 => ?_) (fun c3 => ?_)
  · have hF0 := (if_pos c3).symm.trans hF0
    exact hJ2 ()  hF0 _ _ _ hw (lv_sub hl [] rfl)
  · have hF0 := (if_neg c3).symm.trans hF0
    refine lv_iload_n hx hb dX6_get_4 rfl (lv_at hl 1 rfl) ?_
    refine lv_aload_n hx hb dX6_get_5 rfl (lv_at hl 0 rfl) ?_
    refine kk_get (T := TX6) F hw ui_X6_get_X6 0 rfl rfl 0 (by decide) m_X6_get_Cond_fieldLink_RX6_13_PerfectPew_Row_cells_I_ rfl dX6_get_6 ?_
    refine kk_alenI F hw 1 rfl dX6_get_9 ?_
    refine lv_icmp_ge (tgt := 22) hx hb dX6_get_10 (by decide) (fun c4 => ?_) (fun c4 => ?_)
    · have hF0 := (if_pos c4).symm.trans hF0
      exact hJ2 ()  hF0 _ _ _ hw (lv_sub hl [] rfl)
    · have hF0 := (if_neg c4).symm.trans hF0
      refine lv_aload_n hx hb dX6_get_13 rfl (lv_at hl 0 rfl) ?_
      refine kk_get (T := TX6) F hw ui_X6_get_X6 0 rfl rfl 0 (by decide) m_X6_get_Cond_fieldLink_RX6_13_PerfectPew_Row_cells_I_ rfl dX6_get_14 ?_
      refine lv_iload_n hx hb dX6_get_17 rfl (lv_at hl 1 rfl) ?_
      obtain ⟨v5, ev5, hF0⟩ := kk_bind hF0
      refine kk_iald F hw 1 rfl ev5 dX6_get_18 ?_
      refine lv_goto (tgt := 23) hx hb dX6_get_19 (by decide) ?_
      exact hJ1 v5 hF0 _ _ _ hw (lv_sub hl [] rfl)
theorem ui_X4_at_X4 : ∀ w ∈ u_ws RX4 TX4 2, w ∈ wsX4_at := by decide +kernel
theorem m_X4_at_Cond_fieldLink_RX4_14_PerfectPew_KeyList_places_LPerfectPew_Row_ : Cond.fieldLink RX4 14 "PerfectPew$KeyList" "places" "LPerfectPew$Row;" ∈ wsX4_at := by decide +kernel
theorem m_X4_at_Cond_initialized_yX6_get_cls : Cond.initialized yX6_get.cls ∈ wsX4_at := by decide +kernel
theorem m_X4_at_Cond_instanceMethod_yX6_get : Cond.instanceMethod yX6_get ∈ wsX4_at := by decide +kernel
theorem m_X4_at_Cond_selects_RX6_yX6_get_yX6_get : Cond.selects RX6 yX6_get yX6_get ∈ wsX4_at := by decide +kernel
set_option maxRecDepth 100000 in
set_option maxHeartbeats 4000000 in
theorem c_X4_at (l : Launch) (G : va_G) (cI cJ : ClassId) (ad : Nat → Nat) (a0 a1 a2 : Nat) (x_size : Int32) (f_places : Nat → Int32) (i1 : Int32) (N : Nat) (x : Int32) (hF0 : F_X4_at N f_places i1 = some x) : kk_I l yX4_at wsX4_at 1 0 0 21 [.ref a0, .int i1] G cI cJ ad [(a0, .inr (4, [.ref a1, .int x_size])), (a1, .inr (6, [.ref a2])), (a2, .inl (cI, 120, .inl f_places))] x [(a0, .inr (4, [.ref a1, .int x_size])), (a1, .inr (6, [.ref a2])), (a2, .inl (cI, 120, .inl f_places))] := by
  refine kk_ofI (cc := cX4_at) (maxL := 2) (by decide) rfl (Nat.le_of_ble_eq_true rfl) ?_
  intro p e s m below meth c A Q ls H locs hx hb hml hown hts hE hw hl hret
  have F : kk_at p m c cX4_at 2 s _ wsX4_at RX4 G cI cJ ad A := ⟨⟨hx, hb, hml, hown, hts⟩, hE⟩
  have hl : lv_has ls 2 [(0, .ref a0), (1, .int i1)] := hl
  unfold F_X4_at at hF0
  refine lv_aload_n hx hb dX4_at_0 rfl (lv_at hl 0 rfl) ?_
  refine kk_get (T := TX4) F hw ui_X4_at_X4 0 rfl rfl 0 (by decide) m_X4_at_Cond_fieldLink_RX4_14_PerfectPew_KeyList_places_LPerfectPew_Row_ rfl dX4_at_1 ?_
  refine lv_iload_n hx hb dX4_at_4 rfl (lv_at hl 1 rfl) ?_
  obtain ⟨v1, ev1, hF0⟩ := kk_bind hF0
  refine kk_callI 0 0 hw (kk_runN (As := [.int i1]) (rest := []) F hw hl.1 (c_X6_get l G cI cJ ad a1 a2 120 f_places i1 N v1 ev1 H.size) gX4_at_X6_get_n20 rfl nl_25 m_X4_at_Cond_initialized_yX6_get_cls m_X4_at_Cond_instanceMethod_yX6_get m_X4_at_Cond_selects_RX6_yX6_get_yX6_get md_X6_get ⟨Nat.le_of_ble_eq_true rfl, Nat.le_of_ble_eq_true rfl⟩ ⟨Nat.le_of_ble_eq_true rfl, Nat.le_of_ble_eq_true rfl⟩ 1 6 rfl rfl rfl rfl (Nat.le_of_ble_eq_true rfl) dX4_at_5) ⟨rfl, rfl⟩ [1, 2] (by decide) rfl rfl (fun H locs hw => ?_)
  have hw : kk_wd G A s.heap [(a0, .inr (4, [.ref a1, .int x_size])), (a1, .inr (6, [.ref a2])), (a2, .inl (cI, 120, .inl f_places))] H locs := hw
  have hy := Option.some.inj hF0
  subst hy
  exact hret dX4_at_8 (by decide) (by decide) hw
theorem ui_X6_set_X6 : ∀ w ∈ u_ws RX6 TX6 1, w ∈ wsX6_set := by decide +kernel
theorem m_X6_set_Cond_fieldLink_RX6_13_PerfectPew_Row_cells_I_ : Cond.fieldLink RX6 13 "PerfectPew$Row" "cells" "[I" ∈ wsX6_set := by decide +kernel
set_option maxRecDepth 100000 in
set_option maxHeartbeats 4000000 in
theorem c_X6_set (l : Launch) (G : va_G) (cI cJ : ClassId) (ad : Nat → Nat) (a0 a1 : Nat) (n_cells : Nat) (f_cells : Nat → Int32) (i1 : Int32) (i2 : Int32) (N : Nat) (x : (Nat → Int32)) (hF0 : F_X6_set N n_cells f_cells i1 i2 = some x) : kk_V l yX6_set wsX6_set 0 0 0 0 [.ref a0, .int i1, .int i2] G cI cJ ad [(a0, .inr (6, [.ref a1])), (a1, .inl (cI, n_cells, .inl f_cells))] [(a0, .inr (6, [.ref a1])), (a1, .inl (cI, n_cells, .inl x))] := by
  refine kk_ofV (cc := cX6_set) (maxL := 3) (by decide) rfl (Nat.le_of_ble_eq_true rfl) ?_
  intro p e s m below meth c A Q ls H locs hx hb hml hown hts hE hw hl hret
  have F : kk_at p m c cX6_set 3 s _ wsX6_set RX6 G cI cJ ad A := ⟨⟨hx, hb, hml, hown, hts⟩, hE⟩
  have hl : lv_has ls 3 [(0, .ref a0), (1, .int i1), (2, .int i2)] := hl
  unfold F_X6_set at hF0
  have hJ1 : ∀ (f_cells_1 : Nat → Int32), J_X6_set_20 N f_cells_1 = some x → ∀ (H : Heap) (locs : List Loc) (ls : Array Slot), kk_wd G A s.heap [(a0, .inr (6, [.ref a1])), (a1, .inl (cI, n_cells, .inl f_cells_1))] H locs → lv_has ls 3 [] → W p l e (kk_rm 0 0 0 0) s m ([.ref a0, .int i1, .int i2] : List Value).toArray below meth c H locs 0 0 Q (F0 m 20 ls []) := by
    intro f_cells_1 hF0 H locs ls hw hl
    unfold J_X6_set_20 at hF0
    have hy := Option.some.inj hF0
    subst hy
    exact hret dX6_set_20 (by decide) (by decide) hw
  refine lv_iload_n hx hb dX6_set_0 rfl (lv_at hl 1 rfl) ?_
  refine lv_if_lt (tgt := 20) hx hb dX6_set_1 (by decide) (fun c2 => ?_) (fun c2 => ?_)
  · have hF0 := (if_pos c2).symm.trans hF0
    exact hJ1 f_cells hF0 _ _ _ hw (lv_sub hl [] rfl)
  · have hF0 := (if_neg c2).symm.trans hF0
    refine lv_iload_n hx hb dX6_set_4 rfl (lv_at hl 1 rfl) ?_
    refine lv_aload_n hx hb dX6_set_5 rfl (lv_at hl 0 rfl) ?_
    refine kk_get (T := TX6) F hw ui_X6_set_X6 0 rfl rfl 0 (by decide) m_X6_set_Cond_fieldLink_RX6_13_PerfectPew_Row_cells_I_ rfl dX6_set_6 ?_
    refine kk_alenI F hw 1 rfl dX6_set_9 ?_
    refine lv_icmp_ge (tgt := 20) hx hb dX6_set_10 (by decide) (fun c3 => ?_) (fun c3 => ?_)
    · have hF0 := (if_pos c3).symm.trans hF0
      exact hJ1 f_cells hF0 _ _ _ hw (lv_sub hl [] rfl)
    · have hF0 := (if_neg c3).symm.trans hF0
      refine lv_aload_n hx hb dX6_set_13 rfl (lv_at hl 0 rfl) ?_
      refine kk_get (T := TX6) F hw ui_X6_set_X6 0 rfl rfl 0 (by decide) m_X6_set_Cond_fieldLink_RX6_13_PerfectPew_Row_cells_I_ rfl dX6_set_14 ?_
      refine lv_iload_n hx hb dX6_set_17 rfl (lv_at hl 1 rfl) ?_
      refine lv_iload_n hx hb dX6_set_18 rfl (lv_at hl 2 rfl) ?_
      obtain ⟨w4, ew4, hF0⟩ := kk_bind hF0
      refine kk_iast F hw 1 rfl ew4 dX6_set_19 (fun H locs hw => ?_)
      have hw : kk_wd G A s.heap [(a0, .inr (6, [.ref a1])), (a1, .inl (cI, n_cells, .inl w4))] H locs := hw
      exact hJ1 w4 hF0 _ _ _ hw (lv_sub hl [] rfl)
theorem ui_X4_rankOf_X4 : ∀ w ∈ u_ws RX4 TX4 2, w ∈ wsX4_rankOf := by decide +kernel
theorem m_X4_rankOf_Cond_fieldLink_RX4_24_PerfectPew_KeyList_size_I_ : Cond.fieldLink RX4 24 "PerfectPew$KeyList" "size" "I" ∈ wsX4_rankOf := by decide +kernel
theorem m_X4_rankOf_Cond_fieldLink_RX4_14_PerfectPew_KeyList_places_LPerfectPew_Row_ : Cond.fieldLink RX4 14 "PerfectPew$KeyList" "places" "LPerfectPew$Row;" ∈ wsX4_rankOf := by decide +kernel
theorem m_X4_rankOf_Cond_initialized_yX6_get_cls : Cond.initialized yX6_get.cls ∈ wsX4_rankOf := by decide +kernel
theorem m_X4_rankOf_Cond_instanceMethod_yX6_get : Cond.instanceMethod yX6_get ∈ wsX4_rankOf := by decide +kernel
theorem m_X4_rankOf_Cond_selects_RX6_yX6_get_yX6_get : Cond.selects RX6 yX6_get yX6_get ∈ wsX4_rankOf := by decide +kernel
set_option maxRecDepth 100000 in
set_option maxHeartbeats 4000000 in
theorem c_X4_rankOf (l : Launch) (G : va_G) (cI cJ : ClassId) (ad : Nat → Nat) (a0 a1 a2 : Nat) (x_size : Int32) (f_places : Nat → Int32) (i1 : Int32) (N : Nat) (x : Int32) (hF0 : F_X4_rankOf N x_size f_places i1 = some x) : kk_I l yX4_rankOf wsX4_rankOf 1 0 0 21 [.ref a0, .int i1] G cI cJ ad [(a0, .inr (4, [.ref a1, .int x_size])), (a1, .inr (6, [.ref a2])), (a2, .inl (cI, 120, .inl f_places))] x [(a0, .inr (4, [.ref a1, .int x_size])), (a1, .inr (6, [.ref a2])), (a2, .inl (cI, 120, .inl f_places))] := by
  refine kk_ofI (cc := cX4_rankOf) (maxL := 5) (by decide) rfl (Nat.le_of_ble_eq_true rfl) ?_
  intro p e s m below meth c A Q ls H locs hx hb hml hown hts hE hw hl hret
  have F : kk_at p m c cX4_rankOf 5 s _ wsX4_rankOf RX4 G cI cJ ad A := ⟨⟨hx, hb, hml, hown, hts⟩, hE⟩
  have hl : lv_has ls 5 [(0, .ref a0), (1, .int i1)] := hl
  unfold F_X4_rankOf at hF0
  have hJ1 : ∀ (i2_1 : Int32), J_X4_rankOf_46 N i2_1 = some x → ∀ (H : Heap) (locs : List Loc) (ls : Array Slot), kk_wd G A s.heap [(a0, .inr (4, [.ref a1, .int x_size])), (a1, .inr (6, [.ref a2])), (a2, .inl (cI, 120, .inl f_places))] H locs → lv_has ls 5 [(2, .int i2_1)] → W p l e (kk_rm 1 0 0 21) s m ([.ref a0, .int i1] : List Value).toArray below meth c H locs 0 0 Q (F0 m 46 ls []) := by
    intro i2_1 hF0 H locs ls hw hl
    unfold J_X4_rankOf_46 at hF0
    refine lv_iload_n hx hb dX4_rankOf_46 rfl (lv_at hl 0 rfl) ?_
    have hy := Option.some.inj hF0
    subst hy
    exact hret dX4_rankOf_47 (by decide) (by decide) hw
  refine lv_iconst (v := 0) hx hb dX4_rankOf_0 (by decide) ?_
  refine lv_istore_n (lv' := [(2, .int 0), (0, .ref a0), (1, .int i1)]) hx hb dX4_rankOf_1 rfl hl (by decide) rfl (fun ls hl => ?_)
  refine lv_aload_n hx hb dX4_rankOf_2 rfl (lv_at hl 1 rfl) ?_
  refine kk_get (T := TX4) F hw ui_X4_rankOf_X4 0 rfl rfl 1 (by decide) m_X4_rankOf_Cond_fieldLink_RX4_24_PerfectPew_KeyList_size_I_ rfl dX4_rankOf_3 ?_
  refine lv_istore_n (lv' := [(3, .int x_size), (2, .int 0), (0, .ref a0), (1, .int i1)]) hx hb dX4_rankOf_6 rfl hl (by decide) rfl (fun ls hl => ?_)
  obtain ⟨z2, hz3, hF0⟩ := kk_bind hF0
  have hL3 : ∀ (n3 : Nat) (i2_3 : Int32) (i3_3 : Int32), kk_iter (fun (σ : (Int32 × Int32)) => L_X4_rankOf_7 N f_places i1 σ.1 σ.2) n3 (i2_3, i3_3) = some z2 → ∀ (H : Heap) (locs : List Loc) (ls : Array Slot), kk_wd G A s.heap [(a0, .inr (4, [.ref a1, .int x_size])), (a1, .inr (6, [.ref a2])), (a2, .inl (cI, 120, .inl f_places))] H locs → lv_has ls 5 [(0, .ref a0), (1, .int i1), (2, .int i2_3), (3, .int i3_3)] → W p l e (kk_rm 1 0 0 21) s m ([.ref a0, .int i1] : List Value).toArray below meth c H locs 0 0 Q (F0 m 7 ls []) := by
    intro n3
    induction n3 with
    | zero => intro i2_3 i3_3 h; exact kk_iter0 h
    | succ n3 ih3 =>
      intro i2_3 i3_3 hq H locs ls hw hl
      obtain ⟨y3, hF1, hI1⟩ := kk_iterS hq
      have hF1 : L_X4_rankOf_7 N f_places i1 i2_3 i3_3 = some y3 := hF1
      unfold L_X4_rankOf_7 at hF1
      have hJ4 : ∀ (i2_4 : Int32) (i3_4 : Int32), J_X4_rankOf_43 N i2_4 i3_4 = some y3 → ∀ (H : Heap) (locs : List Loc) (ls : Array Slot), kk_wd G A s.heap [(a0, .inr (4, [.ref a1, .int x_size])), (a1, .inr (6, [.ref a2])), (a2, .inl (cI, 120, .inl f_places))] H locs → lv_has ls 5 [(0, .ref a0), (1, .int i1), (2, .int i2_4), (3, .int i3_4)] → W p l e (kk_rm 1 0 0 21) s m ([.ref a0, .int i1] : List Value).toArray below meth c H locs 0 0 Q (F0 m 43 ls []) := by
        intro i2_4 i3_4 hF1 H locs ls hw hl
        unfold J_X4_rankOf_43 at hF1
        refine lv_goto (tgt := 7) hx hb dX4_rankOf_43 (by decide) ?_
        have hy := Option.some.inj hF1
        subst hy
        exact ih3 i2_4 i3_4 hI1 _ _ _ hw (lv_sub hl [0, 1, 2, 3] rfl)
      refine lv_iload_n hx hb dX4_rankOf_7 rfl (lv_at hl 2 rfl) ?_
      refine lv_iload_n hx hb dX4_rankOf_8 rfl (lv_at hl 3 rfl) ?_
      refine lv_icmp_ge (tgt := 46) hx hb dX4_rankOf_9 (by decide) (fun c5 => ?_) (fun c5 => ?_)
      · have hF1 := (if_pos c5).symm.trans hF1
        have hy := Option.some.inj hF1
        subst hy
        have hz := Option.some.inj hI1
        subst hz
        exact hJ1 i2_3 hF0 _ _ _ hw (lv_sub hl [2] rfl)
      · have hF1 := (if_neg c5).symm.trans hF1
        refine lv_iload_n hx hb dX4_rankOf_12 rfl (lv_at hl 2 rfl) ?_
        refine lv_iload_n hx hb dX4_rankOf_13 rfl (lv_at hl 3 rfl) ?_
        refine lv_iadd hx hb dX4_rankOf_14 ?_
        refine lv_iconst (v := 1) hx hb dX4_rankOf_15 (by decide) ?_
        refine lv_ishr hx hb dX4_rankOf_16 ?_
        refine lv_istore (lv' := [(4, .int ((i2_3 + i3_3) >>> (1 &&& 31))), (0, .ref a0), (1, .int i1), (2, .int i2_3), (3, .int i3_3)]) hx hb dX4_rankOf_17 hl (by decide) rfl (fun ls hl => ?_)
        refine lv_aload_n hx hb dX4_rankOf_19 rfl (lv_at hl 1 rfl) ?_
        refine kk_get (T := TX4) F hw ui_X4_rankOf_X4 0 rfl rfl 0 (by decide) m_X4_rankOf_Cond_fieldLink_RX4_14_PerfectPew_KeyList_places_LPerfectPew_Row_ rfl dX4_rankOf_20 ?_
        refine lv_iload hx hb dX4_rankOf_23 (lv_at hl 0 rfl) ?_
        obtain ⟨v6, ev6, hF1⟩ := kk_bind hF1
        refine kk_callI 0 0 hw (kk_runN (As := [.int ((i2_3 + i3_3) >>> (1 &&& 31))]) (rest := []) F hw hl.1 (c_X6_get l G cI cJ ad a1 a2 120 f_places ((i2_3 + i3_3) >>> (1 &&& 31)) N v6 ev6 H.size) gX4_rankOf_X6_get_n20 rfl nl_25 m_X4_rankOf_Cond_initialized_yX6_get_cls m_X4_rankOf_Cond_instanceMethod_yX6_get m_X4_rankOf_Cond_selects_RX6_yX6_get_yX6_get md_X6_get ⟨Nat.le_of_ble_eq_true rfl, Nat.le_of_ble_eq_true rfl⟩ ⟨Nat.le_of_ble_eq_true rfl, Nat.le_of_ble_eq_true rfl⟩ 1 6 rfl rfl rfl rfl (Nat.le_of_ble_eq_true rfl) dX4_rankOf_25) ⟨rfl, rfl⟩ [1, 2] (by decide) rfl rfl (fun H locs hw => ?_)
        have hw : kk_wd G A s.heap [(a0, .inr (4, [.ref a1, .int x_size])), (a1, .inr (6, [.ref a2])), (a2, .inl (cI, 120, .inl f_places))] H locs := hw
        refine lv_iload_n hx hb dX4_rankOf_28 rfl (lv_at hl 2 rfl) ?_
        refine lv_icmp_ge (tgt := 40) hx hb dX4_rankOf_29 (by decide) (fun c7 => ?_) (fun c7 => ?_)
        · have hF1 := (if_pos c7).symm.trans hF1
          refine lv_iload hx hb dX4_rankOf_40 (lv_at hl 0 rfl) ?_
          refine lv_istore_n (lv' := [(3, .int ((i2_3 + i3_3) >>> (1 &&& 31))), (4, .int ((i2_3 + i3_3) >>> (1 &&& 31))), (0, .ref a0), (1, .int i1), (2, .int i2_3)]) hx hb dX4_rankOf_42 rfl hl (by decide) rfl (fun ls hl => ?_)
          exact hJ4 i2_3 ((i2_3 + i3_3) >>> (1 &&& 31)) hF1 _ _ _ hw (lv_sub hl [2, 3, 4, 0] rfl)
        · have hF1 := (if_neg c7).symm.trans hF1
          refine lv_iload hx hb dX4_rankOf_32 (lv_at hl 0 rfl) ?_
          refine lv_iconst (v := 1) hx hb dX4_rankOf_34 (by decide) ?_
          refine lv_iadd hx hb dX4_rankOf_35 ?_
          refine lv_istore_n (lv' := [(2, .int (((i2_3 + i3_3) >>> (1 &&& 31)) + 1)), (4, .int ((i2_3 + i3_3) >>> (1 &&& 31))), (0, .ref a0), (1, .int i1), (3, .int i3_3)]) hx hb dX4_rankOf_36 rfl hl (by decide) rfl (fun ls hl => ?_)
          refine lv_goto (tgt := 43) hx hb dX4_rankOf_37 (by decide) ?_
          exact hJ4 (((i2_3 + i3_3) >>> (1 &&& 31)) + 1) i3_3 hF1 _ _ _ hw (lv_sub hl [2, 3, 0, 4] rfl)
  exact hL3 N 0 x_size hz3 _ _ _ hw (lv_sub hl [2, 3, 1, 0] rfl)
theorem ui_X4_holds_X4 : ∀ w ∈ u_ws RX4 TX4 2, w ∈ wsX4_holds := by decide +kernel
theorem m_X4_holds_Cond_fieldLink_RX4_24_PerfectPew_KeyList_size_I_ : Cond.fieldLink RX4 24 "PerfectPew$KeyList" "size" "I" ∈ wsX4_holds := by decide +kernel
theorem m_X4_holds_Cond_fieldLink_RX4_14_PerfectPew_KeyList_places_LPerfectPew_Row_ : Cond.fieldLink RX4 14 "PerfectPew$KeyList" "places" "LPerfectPew$Row;" ∈ wsX4_holds := by decide +kernel
theorem m_X4_holds_Cond_initialized_yX6_get_cls : Cond.initialized yX6_get.cls ∈ wsX4_holds := by decide +kernel
theorem m_X4_holds_Cond_instanceMethod_yX6_get : Cond.instanceMethod yX6_get ∈ wsX4_holds := by decide +kernel
theorem m_X4_holds_Cond_selects_RX6_yX6_get_yX6_get : Cond.selects RX6 yX6_get yX6_get ∈ wsX4_holds := by decide +kernel
set_option maxRecDepth 100000 in
set_option maxHeartbeats 4000000 in
theorem c_X4_holds (l : Launch) (G : va_G) (cI cJ : ClassId) (ad : Nat → Nat) (a0 a1 a2 : Nat) (x_size : Int32) (f_places : Nat → Int32) (i1 : Int32) (N : Nat) (x : Int32) (hF0 : F_X4_holds N x_size f_places i1 = some x) : kk_I l yX4_holds wsX4_holds 2 0 0 45 [.ref a0, .int i1] G cI cJ ad [(a0, .inr (4, [.ref a1, .int x_size])), (a1, .inr (6, [.ref a2])), (a2, .inl (cI, 120, .inl f_places))] x [(a0, .inr (4, [.ref a1, .int x_size])), (a1, .inr (6, [.ref a2])), (a2, .inl (cI, 120, .inl f_places))] := by
  refine kk_ofZ (cc := cX4_holds) (maxL := 3) (by decide) rfl (Nat.le_of_ble_eq_true rfl) ?_
  intro p e s m below meth c A Q ls H locs hx hb hml hown hts hE hw hl hret
  have F : kk_at p m c cX4_holds 3 s _ wsX4_holds RX4 G cI cJ ad A := ⟨⟨hx, hb, hml, hown, hts⟩, hE⟩
  have hl : lv_has ls 3 [(0, .ref a0), (1, .int i1)] := hl
  unfold F_X4_holds at hF0
  have hJ1 : ∀ (s0_1 : Int32), J_X4_holds_31 N s0_1 = some x → ∀ (H : Heap) (locs : List Loc) (ls : Array Slot), kk_wd G A s.heap [(a0, .inr (4, [.ref a1, .int x_size])), (a1, .inr (6, [.ref a2])), (a2, .inl (cI, 120, .inl f_places))] H locs → lv_has ls 3 [] → W p l e (kk_rm 2 0 0 45) s m ([.ref a0, .int i1] : List Value).toArray below meth c H locs 0 0 Q (F0 m 31 ls [.int s0_1]) := by
    intro s0_1 hF0 H locs ls hw hl
    unfold J_X4_holds_31 at hF0
    obtain ⟨u2, eu2, hF0⟩ := kk_bind hF0
    have hy := Option.some.inj hF0
    subst hy
    exact hret dX4_holds_31 (by decide) (by decide) (kk_bl_ok eu2) hw
  have hJ3 : ∀ (_ : Unit), J_X4_holds_30 N = some x → ∀ (H : Heap) (locs : List Loc) (ls : Array Slot), kk_wd G A s.heap [(a0, .inr (4, [.ref a1, .int x_size])), (a1, .inr (6, [.ref a2])), (a2, .inl (cI, 120, .inl f_places))] H locs → lv_has ls 3 [] → W p l e (kk_rm 2 0 0 45) s m ([.ref a0, .int i1] : List Value).toArray below meth c H locs 0 0 Q (F0 m 30 ls []) := by
    intro _ hF0 H locs ls hw hl
    unfold J_X4_holds_30 at hF0
    refine lv_iconst (v := 0) hx hb dX4_holds_30 (by decide) ?_
    exact hJ1 0 hF0 _ _ _ hw (lv_sub hl [] rfl)
  refine lv_aload_n hx hb dX4_holds_0 rfl (lv_at hl 0 rfl) ?_
  refine lv_iload_n hx hb dX4_holds_1 rfl (lv_at hl 1 rfl) ?_
  obtain ⟨v4, ev4, hF0⟩ := kk_bind hF0
  refine kk_callI 0 0 hw (kk_runV (As := [.int i1]) (rest := []) F hw hl.1 (c_X4_rankOf l G cI cJ ad a0 a1 a2 x_size f_places i1 N v4 ev4 H.size) gX4_holds_X4_rankOf rfl ⟨rfl, md_X4_rankOf⟩ ⟨Nat.le_of_ble_eq_true rfl, Nat.le_of_ble_eq_true rfl⟩ ⟨Nat.le_of_ble_eq_true rfl, Nat.le_of_ble_eq_true rfl⟩ 0 4 rfl rfl rfl rfl (Nat.le_of_ble_eq_true rfl) dX4_holds_2) ⟨rfl, rfl⟩ [0, 1, 2] (by decide) rfl rfl (fun H locs hw => ?_)
  have hw : kk_wd G A s.heap [(a0, .inr (4, [.ref a1, .int x_size])), (a1, .inr (6, [.ref a2])), (a2, .inl (cI, 120, .inl f_places))] H locs := hw
  refine lv_istore_n (lv' := [(2, .int v4), (0, .ref a0), (1, .int i1)]) hx hb dX4_holds_5 rfl hl (by decide) rfl (fun ls hl => ?_)
  refine lv_iload_n hx hb dX4_holds_6 rfl (lv_at hl 0 rfl) ?_
  refine lv_aload_n hx hb dX4_holds_7 rfl (lv_at hl 1 rfl) ?_
  refine kk_get (T := TX4) F hw ui_X4_holds_X4 0 rfl rfl 1 (by decide) m_X4_holds_Cond_fieldLink_RX4_24_PerfectPew_KeyList_size_I_ rfl dX4_holds_8 ?_
  refine lv_icmp_ge (tgt := 30) hx hb dX4_holds_11 (by decide) (fun c5 => ?_) (fun c5 => ?_)
  · have hF0 := (if_pos c5).symm.trans hF0
    exact hJ3 ()  hF0 _ _ _ hw (lv_sub hl [] rfl)
  · have hF0 := (if_neg c5).symm.trans hF0
    refine lv_aload_n hx hb dX4_holds_14 rfl (lv_at hl 1 rfl) ?_
    refine kk_get (T := TX4) F hw ui_X4_holds_X4 0 rfl rfl 0 (by decide) m_X4_holds_Cond_fieldLink_RX4_14_PerfectPew_KeyList_places_LPerfectPew_Row_ rfl dX4_holds_15 ?_
    refine lv_iload_n hx hb dX4_holds_18 rfl (lv_at hl 0 rfl) ?_
    obtain ⟨v6, ev6, hF0⟩ := kk_bind hF0
    refine kk_callI 0 0 hw (kk_runN (As := [.int v4]) (rest := []) F hw hl.1 (c_X6_get l G cI cJ ad a1 a2 120 f_places v4 N v6 ev6 H.size) gX4_holds_X6_get_n20 rfl nl_25 m_X4_holds_Cond_initialized_yX6_get_cls m_X4_holds_Cond_instanceMethod_yX6_get m_X4_holds_Cond_selects_RX6_yX6_get_yX6_get md_X6_get ⟨Nat.le_of_ble_eq_true rfl, Nat.le_of_ble_eq_true rfl⟩ ⟨Nat.le_of_ble_eq_true rfl, Nat.le_of_ble_eq_true rfl⟩ 1 6 rfl rfl rfl rfl (Nat.le_of_ble_eq_true rfl) dX4_holds_19) ⟨rfl, rfl⟩ [1, 2] (by decide) rfl rfl (fun H locs hw => ?_)
    have hw : kk_wd G A s.heap [(a0, .inr (4, [.ref a1, .int x_size])), (a1, .inr (6, [.ref a2])), (a2, .inl (cI, 120, .inl f_places))] H locs := hw
    refine lv_iload_n hx hb dX4_holds_22 rfl (lv_at hl 2 rfl) ?_
    refine lv_icmp_ne (tgt := 30) hx hb dX4_holds_23 (by decide) (fun c7 => ?_) (fun c7 => ?_)
    · have hF0 := (if_neg c7).symm.trans hF0
      exact hJ3 ()  hF0 _ _ _ hw (lv_sub hl [] rfl)
    · have hF0 := (if_pos c7).symm.trans hF0
      refine lv_iconst (v := 1) hx hb dX4_holds_26 (by decide) ?_
      refine lv_goto (tgt := 31) hx hb dX4_holds_27 (by decide) ?_
      exact hJ1 1 hF0 _ _ _ hw (lv_sub hl [] rfl)
theorem ui_X4_insert_X4 : ∀ w ∈ u_ws RX4 TX4 2, w ∈ wsX4_insert := by decide +kernel
theorem m_X4_insert_Cond_fieldLink_RX4_14_PerfectPew_KeyList_places_LPerfectPew_Row_ : Cond.fieldLink RX4 14 "PerfectPew$KeyList" "places" "LPerfectPew$Row;" ∈ wsX4_insert := by decide +kernel
theorem m_X4_insert_Cond_fieldLink_RX4_24_PerfectPew_KeyList_size_I_ : Cond.fieldLink RX4 24 "PerfectPew$KeyList" "size" "I" ∈ wsX4_insert := by decide +kernel
theorem m_X4_insert_Cond_initialized_yX6_set_cls : Cond.initialized yX6_set.cls ∈ wsX4_insert := by decide +kernel
theorem m_X4_insert_Cond_instanceMethod_yX6_set : Cond.instanceMethod yX6_set ∈ wsX4_insert := by decide +kernel
theorem m_X4_insert_Cond_selects_RX6_yX6_set_yX6_set : Cond.selects RX6 yX6_set yX6_set ∈ wsX4_insert := by decide +kernel
theorem m_X4_insert_Cond_initialized_yX6_get_cls : Cond.initialized yX6_get.cls ∈ wsX4_insert := by decide +kernel
theorem m_X4_insert_Cond_instanceMethod_yX6_get : Cond.instanceMethod yX6_get ∈ wsX4_insert := by decide +kernel
theorem m_X4_insert_Cond_selects_RX6_yX6_get_yX6_get : Cond.selects RX6 yX6_get yX6_get ∈ wsX4_insert := by decide +kernel
set_option maxRecDepth 100000 in
set_option maxHeartbeats 4000000 in
theorem c_X4_insert (l : Launch) (G : va_G) (cI cJ : ClassId) (ad : Nat → Nat) (a0 a1 a2 : Nat) (x_size : Int32) (f_places : Nat → Int32) (i1 : Int32) (N : Nat) (x : (Int32 × (Nat → Int32))) (hF0 : F_X4_insert N x_size f_places i1 = some x) : kk_V l yX4_insert wsX4_insert 2 0 0 45 [.ref a0, .int i1] G cI cJ ad [(a0, .inr (4, [.ref a1, .int x_size])), (a1, .inr (6, [.ref a2])), (a2, .inl (cI, 120, .inl f_places))] [(a0, .inr (4, [.ref a1, .int x.1])), (a1, .inr (6, [.ref a2])), (a2, .inl (cI, 120, .inl x.2))] := by
  refine kk_ofV (cc := cX4_insert) (maxL := 4) (by decide) rfl (Nat.le_of_ble_eq_true rfl) ?_
  intro p e s m below meth c A Q ls H locs hx hb hml hown hts hE hw hl hret
  have F : kk_at p m c cX4_insert 4 s _ wsX4_insert RX4 G cI cJ ad A := ⟨⟨hx, hb, hml, hown, hts⟩, hE⟩
  have hl : lv_has ls 4 [(0, .ref a0), (1, .int i1)] := hl
  unfold F_X4_insert at hF0
  have hJ1 : ∀ (x_size_1 : Int32) (f_places_1 : Nat → Int32) (i2_1 : Int32), J_X4_insert_40 N x_size_1 f_places_1 i1 i2_1 = some x → ∀ (H : Heap) (locs : List Loc) (ls : Array Slot), kk_wd G A s.heap [(a0, .inr (4, [.ref a1, .int x_size_1])), (a1, .inr (6, [.ref a2])), (a2, .inl (cI, 120, .inl f_places_1))] H locs → lv_has ls 4 [(0, .ref a0), (1, .int i1), (2, .int i2_1)] → W p l e (kk_rm 2 0 0 45) s m ([.ref a0, .int i1] : List Value).toArray below meth c H locs 0 0 Q (F0 m 40 ls []) := by
    intro x_size_1 f_places_1 i2_1 hF0 H locs ls hw hl
    unfold J_X4_insert_40 at hF0
    refine lv_aload_n hx hb dX4_insert_40 rfl (lv_at hl 0 rfl) ?_
    refine kk_get (T := TX4) F hw ui_X4_insert_X4 0 rfl rfl 0 (by decide) m_X4_insert_Cond_fieldLink_RX4_14_PerfectPew_KeyList_places_LPerfectPew_Row_ rfl dX4_insert_41 ?_
    refine lv_iload_n hx hb dX4_insert_44 rfl (lv_at hl 2 rfl) ?_
    refine lv_iload_n hx hb dX4_insert_45 rfl (lv_at hl 1 rfl) ?_
    obtain ⟨v2, ev2, hF0⟩ := kk_bind hF0
    refine kk_callV 0 0 hw (kk_runN (As := [.int i2_1, .int i1]) (rest := []) F hw hl.1 (c_X6_set l G cI cJ ad a1 a2 120 f_places_1 i2_1 i1 N v2 ev2 H.size) gX4_insert_X6_set_n31 rfl nl_27 m_X4_insert_Cond_initialized_yX6_set_cls m_X4_insert_Cond_instanceMethod_yX6_set m_X4_insert_Cond_selects_RX6_yX6_set_yX6_set md_X6_set ⟨Nat.le_of_ble_eq_true rfl, Nat.le_of_ble_eq_true rfl⟩ ⟨Nat.le_of_ble_eq_true rfl, Nat.le_of_ble_eq_true rfl⟩ 1 6 rfl rfl rfl rfl (Nat.le_of_ble_eq_true rfl) dX4_insert_46) ⟨rfl, rfl⟩ [1, 2] (by decide) rfl rfl (fun H locs hw => ?_)
    have hw : kk_wd G A s.heap [(a0, .inr (4, [.ref a1, .int x_size_1])), (a1, .inr (6, [.ref a2])), (a2, .inl (cI, 120, .inl v2))] H locs := hw
    refine lv_aload_n hx hb dX4_insert_49 rfl (lv_at hl 0 rfl) ?_
    refine lv_dup hx hb dX4_insert_50 rfl ?_
    refine kk_get (T := TX4) F hw ui_X4_insert_X4 0 rfl rfl 1 (by decide) m_X4_insert_Cond_fieldLink_RX4_24_PerfectPew_KeyList_size_I_ rfl dX4_insert_51 ?_
    refine lv_iconst (v := 1) hx hb dX4_insert_54 (by decide) ?_
    refine lv_iadd hx hb dX4_insert_55 ?_
    refine kk_put F hw ui_X4_insert_X4 tyX4 tyX4_ok nmX4 0 rfl rfl 1 (by decide) m_X4_insert_Cond_fieldLink_RX4_24_PerfectPew_KeyList_size_I_ rfl rfl rfl (Nat.le_of_ble_eq_true rfl) dX4_insert_56 (fun H locs hw => ?_)
    have hw : kk_wd G A s.heap [(a0, .inr (4, [.ref a1, .int (x_size_1 + 1)])), (a1, .inr (6, [.ref a2])), (a2, .inl (cI, 120, .inl v2))] H locs := hw
    have hy := Option.some.inj hF0
    subst hy
    exact hret dX4_insert_59 (by decide) (by decide) hw
  refine lv_aload_n hx hb dX4_insert_0 rfl (lv_at hl 0 rfl) ?_
  refine lv_iload_n hx hb dX4_insert_1 rfl (lv_at hl 1 rfl) ?_
  obtain ⟨v3, ev3, hF0⟩ := kk_bind hF0
  refine kk_callI 0 0 hw (kk_runV (As := [.int i1]) (rest := []) F hw hl.1 (c_X4_rankOf l G cI cJ ad a0 a1 a2 x_size f_places i1 N v3 ev3 H.size) gX4_insert_X4_rankOf rfl ⟨rfl, md_X4_rankOf⟩ ⟨Nat.le_of_ble_eq_true rfl, Nat.le_of_ble_eq_true rfl⟩ ⟨Nat.le_of_ble_eq_true rfl, Nat.le_of_ble_eq_true rfl⟩ 0 4 rfl rfl rfl rfl (Nat.le_of_ble_eq_true rfl) dX4_insert_2) ⟨rfl, rfl⟩ [0, 1, 2] (by decide) rfl rfl (fun H locs hw => ?_)
  have hw : kk_wd G A s.heap [(a0, .inr (4, [.ref a1, .int x_size])), (a1, .inr (6, [.ref a2])), (a2, .inl (cI, 120, .inl f_places))] H locs := hw
  refine lv_istore_n (lv' := [(2, .int v3), (0, .ref a0), (1, .int i1)]) hx hb dX4_insert_5 rfl hl (by decide) rfl (fun ls hl => ?_)
  refine lv_aload_n hx hb dX4_insert_6 rfl (lv_at hl 1 rfl) ?_
  refine kk_get (T := TX4) F hw ui_X4_insert_X4 0 rfl rfl 1 (by decide) m_X4_insert_Cond_fieldLink_RX4_24_PerfectPew_KeyList_size_I_ rfl dX4_insert_7 ?_
  refine lv_istore_n (lv' := [(3, .int x_size), (2, .int v3), (0, .ref a0), (1, .int i1)]) hx hb dX4_insert_10 rfl hl (by decide) rfl (fun ls hl => ?_)
  obtain ⟨z4, hz5, hF0⟩ := kk_bind hF0
  have hL5 : ∀ (n5 : Nat) (f_places_5 : Nat → Int32) (i3_5 : Int32), kk_iter (fun (σ : ((Nat → Int32) × Int32)) => L_X4_insert_11 N v3 σ.1 σ.2) n5 (f_places_5, i3_5) = some z4 → ∀ (H : Heap) (locs : List Loc) (ls : Array Slot), kk_wd G A s.heap [(a0, .inr (4, [.ref a1, .int x_size])), (a1, .inr (6, [.ref a2])), (a2, .inl (cI, 120, .inl f_places_5))] H locs → lv_has ls 4 [(0, .ref a0), (1, .int i1), (2, .int v3), (3, .int i3_5)] → W p l e (kk_rm 2 0 0 45) s m ([.ref a0, .int i1] : List Value).toArray below meth c H locs 0 0 Q (F0 m 11 ls []) := by
    intro n5
    induction n5 with
    | zero => intro f_places_5 i3_5 h; exact kk_iter0 h
    | succ n5 ih5 =>
      intro f_places_5 i3_5 hq H locs ls hw hl
      obtain ⟨y5, hF1, hI1⟩ := kk_iterS hq
      have hF1 : L_X4_insert_11 N v3 f_places_5 i3_5 = some y5 := hF1
      unfold L_X4_insert_11 at hF1
      refine lv_iload_n hx hb dX4_insert_11 rfl (lv_at hl 3 rfl) ?_
      refine lv_iload_n hx hb dX4_insert_12 rfl (lv_at hl 2 rfl) ?_
      refine lv_icmp_le (tgt := 40) hx hb dX4_insert_13 (by decide) (fun c6 => ?_) (fun c6 => ?_)
      · have hF1 := (if_pos c6).symm.trans hF1
        have hy := Option.some.inj hF1
        subst hy
        have hz := Option.some.inj hI1
        subst hz
        exact hJ1 x_size f_places_5 v3 hF0 _ _ _ hw (lv_sub hl [0, 1, 2] rfl)
      · have hF1 := (if_neg c6).symm.trans hF1
        refine lv_aload_n hx hb dX4_insert_16 rfl (lv_at hl 0 rfl) ?_
        refine kk_get (T := TX4) F hw ui_X4_insert_X4 0 rfl rfl 0 (by decide) m_X4_insert_Cond_fieldLink_RX4_14_PerfectPew_KeyList_places_LPerfectPew_Row_ rfl dX4_insert_17 ?_
        refine lv_iload_n hx hb dX4_insert_20 rfl (lv_at hl 3 rfl) ?_
        refine lv_aload_n hx hb dX4_insert_21 rfl (lv_at hl 0 rfl) ?_
        refine kk_get (T := TX4) F hw ui_X4_insert_X4 0 rfl rfl 0 (by decide) m_X4_insert_Cond_fieldLink_RX4_14_PerfectPew_KeyList_places_LPerfectPew_Row_ rfl dX4_insert_22 ?_
        refine lv_iload_n hx hb dX4_insert_25 rfl (lv_at hl 3 rfl) ?_
        refine lv_iconst (v := 1) hx hb dX4_insert_26 (by decide) ?_
        refine lv_isub hx hb dX4_insert_27 ?_
        obtain ⟨v7, ev7, hF1⟩ := kk_bind hF1
        refine kk_callI 0 0 hw (kk_runN (As := [.int (i3_5 - 1)]) (rest := [.int i3_5, .ref a1]) F hw hl.1 (c_X6_get l G cI cJ ad a1 a2 120 f_places_5 (i3_5 - 1) N v7 ev7 H.size) gX4_insert_X6_get_n20 rfl nl_25 m_X4_insert_Cond_initialized_yX6_get_cls m_X4_insert_Cond_instanceMethod_yX6_get m_X4_insert_Cond_selects_RX6_yX6_get_yX6_get md_X6_get ⟨Nat.le_of_ble_eq_true rfl, Nat.le_of_ble_eq_true rfl⟩ ⟨Nat.le_of_ble_eq_true rfl, Nat.le_of_ble_eq_true rfl⟩ 1 6 rfl rfl rfl rfl (Nat.le_of_ble_eq_true rfl) dX4_insert_28) ⟨rfl, rfl⟩ [1, 2] (by decide) rfl rfl (fun H locs hw => ?_)
        have hw : kk_wd G A s.heap [(a0, .inr (4, [.ref a1, .int x_size])), (a1, .inr (6, [.ref a2])), (a2, .inl (cI, 120, .inl f_places_5))] H locs := hw
        obtain ⟨v8, ev8, hF1⟩ := kk_bind hF1
        refine kk_callV 0 0 hw (kk_runN (As := [.int i3_5, .int v7]) (rest := []) F hw hl.1 (c_X6_set l G cI cJ ad a1 a2 120 f_places_5 i3_5 v7 N v8 ev8 H.size) gX4_insert_X6_set_n31 rfl nl_27 m_X4_insert_Cond_initialized_yX6_set_cls m_X4_insert_Cond_instanceMethod_yX6_set m_X4_insert_Cond_selects_RX6_yX6_set_yX6_set md_X6_set ⟨Nat.le_of_ble_eq_true rfl, Nat.le_of_ble_eq_true rfl⟩ ⟨Nat.le_of_ble_eq_true rfl, Nat.le_of_ble_eq_true rfl⟩ 1 6 rfl rfl rfl rfl (Nat.le_of_ble_eq_true rfl) dX4_insert_31) ⟨rfl, rfl⟩ [1, 2] (by decide) rfl rfl (fun H locs hw => ?_)
        have hw : kk_wd G A s.heap [(a0, .inr (4, [.ref a1, .int x_size])), (a1, .inr (6, [.ref a2])), (a2, .inl (cI, 120, .inl v8))] H locs := hw
        refine lv_iinc (v := (i3_5 + (-1))) (lv' := [(3, .int (i3_5 + (-1))), (0, .ref a0), (1, .int i1), (2, .int v3)]) hx hb dX4_insert_34 hl (k := 3) rfl rfl (by decide) rfl (fun ls hl => ?_)
        refine lv_goto (tgt := 11) hx hb dX4_insert_37 (by decide) ?_
        have hy := Option.some.inj hF1
        subst hy
        exact ih5 v8 (i3_5 + (-1)) hI1 _ _ _ hw (lv_sub hl [1, 2, 3, 0] rfl)
  exact hL5 N f_places x_size hz5 _ _ _ hw (lv_sub hl [2, 3, 1, 0] rfl)
theorem ui_X4_delete_X4 : ∀ w ∈ u_ws RX4 TX4 2, w ∈ wsX4_delete := by decide +kernel
theorem m_X4_delete_Cond_fieldLink_RX4_24_PerfectPew_KeyList_size_I_ : Cond.fieldLink RX4 24 "PerfectPew$KeyList" "size" "I" ∈ wsX4_delete := by decide +kernel
theorem m_X4_delete_Cond_fieldLink_RX4_14_PerfectPew_KeyList_places_LPerfectPew_Row_ : Cond.fieldLink RX4 14 "PerfectPew$KeyList" "places" "LPerfectPew$Row;" ∈ wsX4_delete := by decide +kernel
theorem m_X4_delete_Cond_initialized_yX6_set_cls : Cond.initialized yX6_set.cls ∈ wsX4_delete := by decide +kernel
theorem m_X4_delete_Cond_instanceMethod_yX6_set : Cond.instanceMethod yX6_set ∈ wsX4_delete := by decide +kernel
theorem m_X4_delete_Cond_selects_RX6_yX6_set_yX6_set : Cond.selects RX6 yX6_set yX6_set ∈ wsX4_delete := by decide +kernel
theorem m_X4_delete_Cond_initialized_yX6_get_cls : Cond.initialized yX6_get.cls ∈ wsX4_delete := by decide +kernel
theorem m_X4_delete_Cond_instanceMethod_yX6_get : Cond.instanceMethod yX6_get ∈ wsX4_delete := by decide +kernel
theorem m_X4_delete_Cond_selects_RX6_yX6_get_yX6_get : Cond.selects RX6 yX6_get yX6_get ∈ wsX4_delete := by decide +kernel
set_option maxRecDepth 100000 in
set_option maxHeartbeats 4000000 in
theorem c_X4_delete (l : Launch) (G : va_G) (cI cJ : ClassId) (ad : Nat → Nat) (a0 a1 a2 : Nat) (x_size : Int32) (f_places : Nat → Int32) (i1 : Int32) (N : Nat) (x : (Int32 × (Nat → Int32))) (hF0 : F_X4_delete N x_size f_places i1 = some x) : kk_V l yX4_delete wsX4_delete 2 0 0 45 [.ref a0, .int i1] G cI cJ ad [(a0, .inr (4, [.ref a1, .int x_size])), (a1, .inr (6, [.ref a2])), (a2, .inl (cI, 120, .inl f_places))] [(a0, .inr (4, [.ref a1, .int x.1])), (a1, .inr (6, [.ref a2])), (a2, .inl (cI, 120, .inl x.2))] := by
  refine kk_ofV (cc := cX4_delete) (maxL := 3) (by decide) rfl (Nat.le_of_ble_eq_true rfl) ?_
  intro p e s m below meth c A Q ls H locs hx hb hml hown hts hE hw hl hret
  have F : kk_at p m c cX4_delete 3 s _ wsX4_delete RX4 G cI cJ ad A := ⟨⟨hx, hb, hml, hown, hts⟩, hE⟩
  have hl : lv_has ls 3 [(0, .ref a0), (1, .int i1)] := hl
  unfold F_X4_delete at hF0
  have hJ1 : ∀ (x_size_1 : Int32) (f_places_1 : Nat → Int32), J_X4_delete_40 N x_size_1 f_places_1 = some x → ∀ (H : Heap) (locs : List Loc) (ls : Array Slot), kk_wd G A s.heap [(a0, .inr (4, [.ref a1, .int x_size_1])), (a1, .inr (6, [.ref a2])), (a2, .inl (cI, 120, .inl f_places_1))] H locs → lv_has ls 3 [(0, .ref a0)] → W p l e (kk_rm 2 0 0 45) s m ([.ref a0, .int i1] : List Value).toArray below meth c H locs 0 0 Q (F0 m 40 ls []) := by
    intro x_size_1 f_places_1 hF0 H locs ls hw hl
    unfold J_X4_delete_40 at hF0
    refine lv_aload_n hx hb dX4_delete_40 rfl (lv_at hl 0 rfl) ?_
    refine lv_dup hx hb dX4_delete_41 rfl ?_
    refine kk_get (T := TX4) F hw ui_X4_delete_X4 0 rfl rfl 1 (by decide) m_X4_delete_Cond_fieldLink_RX4_24_PerfectPew_KeyList_size_I_ rfl dX4_delete_42 ?_
    refine lv_iconst (v := 1) hx hb dX4_delete_45 (by decide) ?_
    refine lv_isub hx hb dX4_delete_46 ?_
    refine kk_put F hw ui_X4_delete_X4 tyX4 tyX4_ok nmX4 0 rfl rfl 1 (by decide) m_X4_delete_Cond_fieldLink_RX4_24_PerfectPew_KeyList_size_I_ rfl rfl rfl (Nat.le_of_ble_eq_true rfl) dX4_delete_47 (fun H locs hw => ?_)
    have hw : kk_wd G A s.heap [(a0, .inr (4, [.ref a1, .int (x_size_1 - 1)])), (a1, .inr (6, [.ref a2])), (a2, .inl (cI, 120, .inl f_places_1))] H locs := hw
    have hy := Option.some.inj hF0
    subst hy
    exact hret dX4_delete_50 (by decide) (by decide) hw
  refine lv_aload_n hx hb dX4_delete_0 rfl (lv_at hl 0 rfl) ?_
  refine lv_iload_n hx hb dX4_delete_1 rfl (lv_at hl 1 rfl) ?_
  obtain ⟨v2, ev2, hF0⟩ := kk_bind hF0
  refine kk_callI 0 0 hw (kk_runV (As := [.int i1]) (rest := []) F hw hl.1 (c_X4_rankOf l G cI cJ ad a0 a1 a2 x_size f_places i1 N v2 ev2 H.size) gX4_delete_X4_rankOf rfl ⟨rfl, md_X4_rankOf⟩ ⟨Nat.le_of_ble_eq_true rfl, Nat.le_of_ble_eq_true rfl⟩ ⟨Nat.le_of_ble_eq_true rfl, Nat.le_of_ble_eq_true rfl⟩ 0 4 rfl rfl rfl rfl (Nat.le_of_ble_eq_true rfl) dX4_delete_2) ⟨rfl, rfl⟩ [0, 1, 2] (by decide) rfl rfl (fun H locs hw => ?_)
  have hw : kk_wd G A s.heap [(a0, .inr (4, [.ref a1, .int x_size])), (a1, .inr (6, [.ref a2])), (a2, .inl (cI, 120, .inl f_places))] H locs := hw
  refine lv_iconst (v := 1) hx hb dX4_delete_5 (by decide) ?_
  refine lv_iadd hx hb dX4_delete_6 ?_
  refine lv_istore_n (lv' := [(2, .int (v2 + 1)), (0, .ref a0), (1, .int i1)]) hx hb dX4_delete_7 rfl hl (by decide) rfl (fun ls hl => ?_)
  obtain ⟨z3, hz4, hF0⟩ := kk_bind hF0
  have hL4 : ∀ (n4 : Nat) (f_places_4 : Nat → Int32) (i2_4 : Int32), kk_iter (fun (σ : ((Nat → Int32) × Int32)) => L_X4_delete_8 N x_size σ.1 σ.2) n4 (f_places_4, i2_4) = some z3 → ∀ (H : Heap) (locs : List Loc) (ls : Array Slot), kk_wd G A s.heap [(a0, .inr (4, [.ref a1, .int x_size])), (a1, .inr (6, [.ref a2])), (a2, .inl (cI, 120, .inl f_places_4))] H locs → lv_has ls 3 [(0, .ref a0), (2, .int i2_4)] → W p l e (kk_rm 2 0 0 45) s m ([.ref a0, .int i1] : List Value).toArray below meth c H locs 0 0 Q (F0 m 8 ls []) := by
    intro n4
    induction n4 with
    | zero => intro f_places_4 i2_4 h; exact kk_iter0 h
    | succ n4 ih4 =>
      intro f_places_4 i2_4 hq H locs ls hw hl
      obtain ⟨y4, hF1, hI1⟩ := kk_iterS hq
      have hF1 : L_X4_delete_8 N x_size f_places_4 i2_4 = some y4 := hF1
      unfold L_X4_delete_8 at hF1
      refine lv_iload_n hx hb dX4_delete_8 rfl (lv_at hl 1 rfl) ?_
      refine lv_aload_n hx hb dX4_delete_9 rfl (lv_at hl 0 rfl) ?_
      refine kk_get (T := TX4) F hw ui_X4_delete_X4 0 rfl rfl 1 (by decide) m_X4_delete_Cond_fieldLink_RX4_24_PerfectPew_KeyList_size_I_ rfl dX4_delete_10 ?_
      refine lv_icmp_ge (tgt := 40) hx hb dX4_delete_13 (by decide) (fun c5 => ?_) (fun c5 => ?_)
      · have hF1 := (if_pos c5).symm.trans hF1
        have hy := Option.some.inj hF1
        subst hy
        have hz := Option.some.inj hI1
        subst hz
        exact hJ1 x_size f_places_4 hF0 _ _ _ hw (lv_sub hl [0] rfl)
      · have hF1 := (if_neg c5).symm.trans hF1
        refine lv_aload_n hx hb dX4_delete_16 rfl (lv_at hl 0 rfl) ?_
        refine kk_get (T := TX4) F hw ui_X4_delete_X4 0 rfl rfl 0 (by decide) m_X4_delete_Cond_fieldLink_RX4_14_PerfectPew_KeyList_places_LPerfectPew_Row_ rfl dX4_delete_17 ?_
        refine lv_iload_n hx hb dX4_delete_20 rfl (lv_at hl 1 rfl) ?_
        refine lv_iconst (v := 1) hx hb dX4_delete_21 (by decide) ?_
        refine lv_isub hx hb dX4_delete_22 ?_
        refine lv_aload_n hx hb dX4_delete_23 rfl (lv_at hl 0 rfl) ?_
        refine kk_get (T := TX4) F hw ui_X4_delete_X4 0 rfl rfl 0 (by decide) m_X4_delete_Cond_fieldLink_RX4_14_PerfectPew_KeyList_places_LPerfectPew_Row_ rfl dX4_delete_24 ?_
        refine lv_iload_n hx hb dX4_delete_27 rfl (lv_at hl 1 rfl) ?_
        obtain ⟨v6, ev6, hF1⟩ := kk_bind hF1
        refine kk_callI 0 0 hw (kk_runN (As := [.int i2_4]) (rest := [.int (i2_4 - 1), .ref a1]) F hw hl.1 (c_X6_get l G cI cJ ad a1 a2 120 f_places_4 i2_4 N v6 ev6 H.size) gX4_delete_X6_get_n20 rfl nl_25 m_X4_delete_Cond_initialized_yX6_get_cls m_X4_delete_Cond_instanceMethod_yX6_get m_X4_delete_Cond_selects_RX6_yX6_get_yX6_get md_X6_get ⟨Nat.le_of_ble_eq_true rfl, Nat.le_of_ble_eq_true rfl⟩ ⟨Nat.le_of_ble_eq_true rfl, Nat.le_of_ble_eq_true rfl⟩ 1 6 rfl rfl rfl rfl (Nat.le_of_ble_eq_true rfl) dX4_delete_28) ⟨rfl, rfl⟩ [1, 2] (by decide) rfl rfl (fun H locs hw => ?_)
        have hw : kk_wd G A s.heap [(a0, .inr (4, [.ref a1, .int x_size])), (a1, .inr (6, [.ref a2])), (a2, .inl (cI, 120, .inl f_places_4))] H locs := hw
        obtain ⟨v7, ev7, hF1⟩ := kk_bind hF1
        refine kk_callV 0 0 hw (kk_runN (As := [.int (i2_4 - 1), .int v6]) (rest := []) F hw hl.1 (c_X6_set l G cI cJ ad a1 a2 120 f_places_4 (i2_4 - 1) v6 N v7 ev7 H.size) gX4_delete_X6_set_n31 rfl nl_27 m_X4_delete_Cond_initialized_yX6_set_cls m_X4_delete_Cond_instanceMethod_yX6_set m_X4_delete_Cond_selects_RX6_yX6_set_yX6_set md_X6_set ⟨Nat.le_of_ble_eq_true rfl, Nat.le_of_ble_eq_true rfl⟩ ⟨Nat.le_of_ble_eq_true rfl, Nat.le_of_ble_eq_true rfl⟩ 1 6 rfl rfl rfl rfl (Nat.le_of_ble_eq_true rfl) dX4_delete_31) ⟨rfl, rfl⟩ [1, 2] (by decide) rfl rfl (fun H locs hw => ?_)
        have hw : kk_wd G A s.heap [(a0, .inr (4, [.ref a1, .int x_size])), (a1, .inr (6, [.ref a2])), (a2, .inl (cI, 120, .inl v7))] H locs := hw
        refine lv_iinc (v := (i2_4 + 1)) (lv' := [(2, .int (i2_4 + 1)), (0, .ref a0)]) hx hb dX4_delete_34 hl (k := 1) rfl rfl (by decide) rfl (fun ls hl => ?_)
        refine lv_goto (tgt := 8) hx hb dX4_delete_37 (by decide) ?_
        have hy := Option.some.inj hF1
        subst hy
        exact ih4 v7 (i2_4 + 1) hI1 _ _ _ hw (lv_sub hl [1, 0] rfl)
  exact hL4 N f_places (v2 + 1) hz4 _ _ _ hw (lv_sub hl [1, 0] rfl)
