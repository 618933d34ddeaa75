/-! ===== the hashes, the steps, the numbers ===== -/
def hA (c : Nat) : Nat := match c with
  | 0 => 9973 | 1 => 104729 | 2 => 31337 | 3 => 611953 | 4 => 86243 | _ => 756839
def hB (c : Nat) : Nat := match c with
  | 0 => 7919 | 1 => 15485 | 2 => 27644 | 3 => 39916 | 4 => 65537 | _ => 44497
def hC (c : Nat) : Nat := match c with
  | 0 => 11 | 1 => 101 | 2 => 1009 | 3 => 10007 | 4 => 313 | _ => 2203
def hN (c key s : Nat) : Nat := (key * hA c + s * hB c + hC c) % 1000003
theorem hN_lt (c key s : Nat) : hN c key s < 1000003 := Nat.mod_lt _ (by decide)
theorem hA_le (c : Nat) : hA c ≤ 756839 := by
  match c with
  | 0 => decide | 1 => decide | 2 => decide | 3 => decide | 4 => decide | n + 5 => exact Nat.le_refl _
theorem hB_le (c : Nat) : hB c ≤ 65537 := by
  match c with
  | 0 => decide | 1 => decide | 2 => decide | 3 => decide | 4 => decide | n + 5 => exact (by decide : (44497 : Nat) ≤ 65537)
theorem hC_le (c : Nat) : hC c ≤ 10007 := by
  match c with
  | 0 => decide | 1 => decide | 2 => decide | 3 => decide | 4 => decide | n + 5 => exact (by decide : (2203 : Nat) ≤ 10007)
theorem kk_pkN (c : Nat) : kk_pk c = lN (hA c) := by
  match c with
  | 0 => rfl | 1 => rfl | 2 => rfl | 3 => rfl | 4 => rfl | n + 5 => rfl
theorem kk_psN (c : Nat) : kk_ps c = lN (hB c) := by
  match c with
  | 0 => rfl | 1 => rfl | 2 => rfl | 3 => rfl | 4 => rfl | n + 5 => rfl
theorem kk_moN (c : Nat) : kk_mo c = lN (hC c) := by
  match c with
  | 0 => rfl | 1 => rfl | 2 => rfl | 3 => rfl | 4 => rfl | n + 5 => rfl
theorem hN_big {c key s : Nat} (hk : key < 100000) (hs : s < 200) : key * hA c + s * hB c + hC c < 2 ^ 63 := by
  have h1 : key * hA c ≤ 100000 * 756839 := Nat.mul_le_mul (Nat.le_of_lt hk) (hA_le c)
  have h2 : s * hB c ≤ 200 * 65537 := Nat.mul_le_mul (Nat.le_of_lt hs) (hB_le c)
  have h3 := hC_le c
  omega
theorem pu_hashv {c key s : Nat} (hk : key < 100000) (hs : s < 200) :
    Int64.toInt32 (kk_remL ((((Int32.toInt64 (nI key)) * lN (hA c)) + ((Int32.toInt64 (nI s)) * lN (hB c))) + lN (hC c)) 1000003) = nI (hN c key s) := by
  rw [nI_l (by omega), nI_l (by omega), lN_mul, lN_mul, lN_add, lN_add]
  have e : kk_remL (lN (key * hA c + s * hB c + hC c)) 1000003 = lN (hN c key s) := pk_lRem (hN_big hk hs) (by decide) (by decide)
  rw [e, lN_i]
theorem pu_of {N c key s : Nat} (hk : key < 100000) (hs : s < 200) : F_X3_of N c (nI key) (nI s) = some (nI (hN c key s)) := by
  unfold F_X3_of
  rw [kk_pkN, kk_psN, kk_moN, pu_hashv hk hs]
theorem pu_first {N c : Nat} (hc : c < 6) : F_X8_first N (nI c) = some (lN (hA c)) := by
  match c, hc with
  | 0, _ => rfl | 1, _ => rfl | 2, _ => rfl | 3, _ => rfl | 4, _ => rfl | 5, _ => rfl
theorem pu_second {N c : Nat} (hc : c < 6) : F_X8_second N (nI c) = some (lN (hB c)) := by
  match c, hc with
  | 0, _ => rfl | 1, _ => rfl | 2, _ => rfl | 3, _ => rfl | 4, _ => rfl | 5, _ => rfl
theorem pu_third {N c : Nat} (hc : c < 6) : F_X8_third N (nI c) = some (lN (hC c)) := by
  match c, hc with
  | 0, _ => rfl | 1, _ => rfl | 2, _ => rfl | 3, _ => rfl | 4, _ => rfl | 5, _ => rfl
theorem pu_mh {N c key s : Nat} (hc : c < 6) (hk : key < 100000) (hs : s < 200) : F_X8_hash N (nI c) (nI key) (nI s) = some (nI (hN c key s)) := by
  unfold F_X8_hash
  rw [pu_bind (pu_first hc), pu_bind (pu_second hc), pu_bind (pu_third hc), pu_hashv hk hs]
theorem pu_mh0 {N key s : Nat} (hk : key < 100000) (hs : s < 200) : F_X8_hash N 0 (nI key) (nI s) = some (nI (hN 0 key s)) := pu_mh (c := 0) (by decide) hk hs
theorem pu_mh1 {N key s : Nat} (hk : key < 100000) (hs : s < 200) : F_X8_hash N 1 (nI key) (nI s) = some (nI (hN 1 key s)) := pu_mh (c := 1) (by decide) hk hs
theorem pu_mh2 {N key s : Nat} (hk : key < 100000) (hs : s < 200) : F_X8_hash N 2 (nI key) (nI s) = some (nI (hN 2 key s)) := pu_mh (c := 2) (by decide) hk hs
theorem pu_mh3 {N key s : Nat} (hk : key < 100000) (hs : s < 200) : F_X8_hash N 3 (nI key) (nI s) = some (nI (hN 3 key s)) := pu_mh (c := 3) (by decide) hk hs
theorem pu_mh4 {N key s : Nat} (hk : key < 100000) (hs : s < 200) : F_X8_hash N 4 (nI key) (nI s) = some (nI (hN 4 key s)) := pu_mh (c := 4) (by decide) hk hs
theorem pu_mh5 {N key s : Nat} (hk : key < 100000) (hs : s < 200) : F_X8_hash N 5 (nI key) (nI s) = some (nI (hN 5 key s)) := pu_mh (c := 5) (by decide) hk hs
theorem pu_nz {α : Type} {b : Nat} {f : Unit → Option α} (h0 : 0 < b) (h : b < 2 ^ 31) : (kk_nz (nI b)).bind f = f () := by
  unfold kk_nz
  rw [if_neg (nI_ne0 h0 h)]; rfl
theorem pu_nzL {α : Type} {b : Nat} {f : Unit → Option α} (h0 : 0 < b) (h : b < 2 ^ 31) : (kk_nzL (Int32.toInt64 (nI b))).bind f = f () := by
  unfold kk_nzL
  rw [nI_l h, if_neg (fun e => by
    have h2 : lN b = lN 0 := e
    have := (lN_eq h (by decide)).mp h2
    omega)]
  rfl
theorem pu_rem {a b : Nat} (ha : a < 2 ^ 31) (h0 : 0 < b) (hb : b < 2 ^ 31) : kk_rem (nI a) (nI b) = nI (a % b) := pk_rem ha h0 hb
theorem pu_rmd {N a b : Nat} (ha : a < 2 ^ 31) (h0 : 0 < b) (hb : b < 2 ^ 31) : F_X7_remainder N (nI a) (nI b) = some (nI (a % b)) := by
  unfold F_X7_remainder J_X7_remainder_11
  rw [if_neg (nI_nle h0 hb), pu_nz h0 hb, pu_rem ha h0 hb]
theorem pu_addpred {a b : Nat} (h : 1 ≤ a + b) : nI a + nI b - 1 = nI (a + b - 1) := by
  rw [nI_add]
  obtain ⟨m, hm⟩ : ∃ m, a + b = m + 1 := ⟨a + b - 1, by omega⟩
  rw [hm, nI_pred]; rfl
theorem pu_dup {N a b : Nat} (ha : a < 2 ^ 30) (h0 : 0 < b) (hb : b < 2 ^ 30) : F_X7_dividedUp N (nI a) (nI b) = some (nI ((a + b - 1) / b)) := by
  unfold F_X7_dividedUp J_X7_dividedUp_15
  rw [if_neg (nI_nle h0 (by omega)), pu_nz h0 (by omega), pu_addpred (by omega)]
  exact congrArg some (pk_div (by omega) h0 (by omega))
def stN (n s key : Nat) : Nat := if n ≤ 1 then 1 else 1 + hN 2 key s % (n - 1)
def atN (n s d key : Nat) : Nat := (hN 1 key s + d * stN n s key) % n
def bkN (B s key : Nat) : Nat := hN 0 key s % B
theorem stN_le {n s key : Nat} (h : n ≤ 120) : stN n s key ≤ 120 := by
  unfold stN
  split
  · decide
  · have : hN 2 key s % (n - 1) < n - 1 := Nat.mod_lt _ (by omega)
    omega
theorem atN_lt {n s d key : Nat} (h : 0 < n) : atN n s d key < n := Nat.mod_lt _ h
theorem bkN_lt {B s key : Nat} (h : 0 < B) : bkN B s key < B := Nat.mod_lt _ h
/-- the tries come round -/
theorem atN_mod {n s d key : Nat} : atN n s (d % n) key = atN n s d key := by
  unfold atN
  rw [Nat.add_mod, Nat.mul_mod, Nat.mod_mod, ← Nat.mul_mod, ← Nat.add_mod]
theorem pu_stepOf {N n s key : Nat} (hn : n ≤ 120) (hk : key < 100000) (hs : s < 200) : F_X0_stepOf N (nI n) (nI s) (nI key) = some (nI (stN n s key)) := by
  unfold F_X0_stepOf J_X0_stepOf_34 stN
  by_cases h : n ≤ 1
  · rw [if_pos h, if_pos (show nI n ≤ 1 from nI_le (b := 1) h (by decide))]; rfl
  · rw [if_neg h, if_neg (show ¬ nI n ≤ 1 from nI_ge (a := 1) (by omega) (by omega)), pu_bind (pu_of hk hs)]
    have e : nI n - 1 = nI (n - 1) := pk_sub (b := 1) (by omega)
    have := hN_lt 2 key s
    rw [e, pu_bind (pu_rmd (by omega) (by omega) (by omega))]
    exact congrArg some (nI_add 1 _)
theorem pu_mstepOf {N n s key : Nat} (h1 : 1 ≤ n) (hn : n ≤ 120) (hk : key < 100000) (hs : s < 200) : F_X8_stepOf N (nI key) (nI s) (nI n) = some (nI (stN n s key)) := by
  unfold F_X8_stepOf J_X8_stepOf_21 stN
  by_cases h : n ≤ 1
  · have : n = 1 := by omega
    subst this
    rw [if_pos h, if_pos (show nI 1 = 1 from rfl)]; rfl
  · rw [if_neg h, if_neg (fun e => by
      have h2 : nI n = nI 1 := e
      have := (nI_eq (by omega) (by decide)).mp h2
      omega), pu_bind (pu_mh2 hk hs)]
    have e : nI n - 1 = nI (n - 1) := pk_sub (b := 1) (by omega)
    have := hN_lt 2 key s
    rw [e, pu_nz (by omega) (by omega), pu_rem (by omega) (by omega) (by omega)]
    exact congrArg some (nI_add 1 _)
theorem at_big {n s d key : Nat} (hn : n ≤ 120) (hd : d < 512) : hN 1 key s + d * stN n s key < 2000000 := by
  have h1 := hN_lt 1 key s
  have h2 : d * stN n s key ≤ 512 * 120 := Nat.mul_le_mul (Nat.le_of_lt hd) (stN_le hn)
  omega
theorem pu_mplace {N n s d key : Nat} (h1 : 1 ≤ n) (hn : n ≤ 120) (hk : key < 100000) (hs : s < 200) (hd : d < 512) : F_X8_place N (nI key) (nI s) (nI d) (nI n) = some (nI (atN n s d key)) := by
  unfold F_X8_place
  have h5 := at_big (s := s) (key := key) hn hd
  have h6 := stN_le (s := s) (key := key) hn
  have h7 := hN_lt 1 key s
  rw [pu_bind (pu_mh1 hk hs), pu_bind (pu_mstepOf h1 hn hk hs), pu_nzL (by omega) (by omega), nI_l (by omega), nI_l (by omega), nI_l (by omega), nI_l (by omega), lN_mul, lN_add]
  have e : kk_remL (lN (hN 1 key s + d * stN n s key)) (lN n) = lN (atN n s d key) := pk_lRem (by omega) (by omega) (by omega)
  rw [e, lN_i]
theorem pu_bucketOf {N B s key : Nat} (h0 : 0 < B) (hB : B ≤ 120) (hk : key < 100000) (hs : s < 200) : F_X0_bucketOf N (nI B) (nI s) (nI key) = some (nI (bkN B s key)) := by
  unfold F_X0_bucketOf
  have h7 := hN_lt 0 key s
  rw [pu_bind (pu_of hk hs), pu_bind (pu_rmd (by omega) h0 (by omega))]
  rfl
theorem pu_numberOf {N n B s key d : Nat} {f : Nat → Int32} (h1 : 1 ≤ n) (hn : n ≤ 120) (h0 : 0 < B) (hB : B ≤ 120) (hk : key < 100000) (hs : s < 200) (hd : d < 512) (hf : f (bkN B s key) = nI d) :
    F_X0_numberOf N (nI n) (nI B) (nI s) f (nI key) = some (nI (atN n s d key)) := by
  unfold F_X0_numberOf
  have h7 := bkN_lt (s := s) (key := key) h0
  have h5 := at_big (s := s) (key := key) hn hd
  rw [pu_bind (pu_bucketOf h0 hB hk hs), pu_bind (pu_get (by omega) (by decide)), hf, pu_bind (pu_stepOf hn hk hs), pu_bind (pu_of hk hs), pk_mul, nI_add, pu_bind (pu_rmd (by omega) (by omega) (by omega))]
  rfl
theorem pu_mnumberOf {N n B s key d : Nat} {f : Nat → Int32} (h1 : 1 ≤ n) (hn : n ≤ 120) (h0 : 0 < B) (hB : B ≤ 120) (hk : key < 100000) (hs : s < 200) (hd : d < 512) (hf : f (bkN B s key) = nI d) :
    F_X8_numberOf N (nI n) (nI s) (nI B) f (nI key) = some (nI (atN n s d key)) := by
  unfold F_X8_numberOf
  have h7 := bkN_lt (s := s) (key := key) h0
  have h8 := hN_lt 0 key s
  rw [pu_bind (pu_mh0 hk hs), pu_nz h0 (by omega), pu_rem (by omega) h0 (by omega)]
  rw [show hN 0 key s % B = bkN B s key from rfl, pu_bind (pu_rd (by omega) (by decide)), hf, pu_bind (pu_mplace h1 hn hk hs hd)]
theorem pu_numberWith {N n s d key r : Nat} {fs ft : Nat → Int32} (h1 : 1 ≤ n) (hn : n ≤ 120) (hd : d < 512) (hr : r < 120) (hf : fs r = nI (hN 1 key s)) (hg : ft r = nI (stN n s key)) :
    F_X0_numberWith N (nI n) fs ft (nI r) (nI d) = some (nI (atN n s d key)) := by
  unfold F_X0_numberWith
  have h5 := at_big (s := s) (key := key) hn hd
  rw [pu_bind (pu_get hr (by decide)), pu_bind (pu_get hr (by decide)), hf, hg, pk_mul, nI_add, pu_bind (pu_rmd (by omega) (by omega) (by omega))]
  rfl
