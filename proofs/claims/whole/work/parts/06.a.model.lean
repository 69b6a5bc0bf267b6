/-! ===== the reference: its cells; what its methods answer, in the same words ===== -/
abbrev MO : Type := Int32 × Int32 × Int32 × Int32 × Int32 × Int64 × Int32 × Int32 × Int32 × Int32 × Int32
abbrev mTs (o : MO) : Int32 := o.1
abbrev mPl (o : MO) : Int32 := o.2.1
abbrev mN (o : MO) : Int32 := o.2.2.1
abbrev mRp (o : MO) : Int32 := o.2.2.2.1
abbrev mAc (o : MO) : Int32 := o.2.2.2.2.1
abbrev mSd (o : MO) : Int64 := o.2.2.2.2.2.1
abbrev mSm (o : MO) : Int32 := o.2.2.2.2.2.2.1
abbrev mSo (o : MO) : Int32 := o.2.2.2.2.2.2.2.1
abbrev mSw (o : MO) : Int32 := o.2.2.2.2.2.2.2.2.1
abbrev mRm (o : MO) : Int32 := o.2.2.2.2.2.2.2.2.2.1
abbrev mRf (o : MO) : Int32 := o.2.2.2.2.2.2.2.2.2.2
abbrev kmo (m : Nat) (o : MO) : va_E := .inr (5, [.int 0, .ref (m + 1), .int (mTs o), .int (mPl o), .int (mN o), .ref (m + 2), .int (mRp o), .ref (m + 3), .ref (m + 4), .ref (m + 5), .ref (m + 6), .ref (m + 7), .int (mAc o), .ref (m + 8), .ref (m + 9), .long (mSd o), .int (mSm o), .int (mSo o), .int (mSw o), .ref (m + 10), .int (mRm o), .int (mRf o)])
abbrev ka (L : Nat) (f : Nat → Int32) : va_E := .inl (0, L, .inl f)
def WF (u : PU) (n : Nat) : Prop := pN u = nI n ∧ n ≤ 5 ∧ (∀ j, j < 5 → ∃ s, s ≤ 9 ∧ pSo u j = nI s) ∧ (∀ j, j < 5 → ∃ a, a ≤ 99 ∧ pAg u j = nI a) ∧ (∀ j, j < 5 → ∃ k, k ≤ 3 ∧ pKd u j = nI k) ∧ (∀ j, j < 5 → ∃ k, k < 2 ^ n ∧ pKn u j = nI k) ∧ (∃ k, k < 2 ^ n ∧ pOp u = nI k) ∧ (∃ k, k < 2 ^ n ∧ pOn u = nI k) ∧ (∀ j, n ≤ j → j < 5 → pSo u j = 0)
/-- a page holds this standing -/
def pgR (f : Nat → Int32) (u : PU) : Prop := (∀ j, j < 5 → f j = pSo u j) ∧ (∀ j, j < 5 → f (5 + j) = pAg u j) ∧ (∀ j, j < 5 → f (10 + j) = pKn u j) ∧ f 15 = pOp u ∧ (∀ j, j < 25 → f (16 + j) = pOw u j) ∧ f 41 = pOn u ∧ f 42 = pWk u
theorem a0 (j : Nat) : (0 : Int32) + nI j = nI j := by rw [show (0 : Int32) = nI 0 from rfl, nI_add, Nat.zero_add]
theorem a5 (j : Nat) : (5 : Int32) + nI j = nI (5 + j) := nI_add 5 j
theorem a10 (j : Nat) : (10 : Int32) + nI j = nI (10 + j) := nI_add 10 j
theorem hasT {n j : Nat} (hn : n ≤ 5) (hj : j < n) : hasI (nI n) (nI j) = true := by
  simp only [hasI, Bool.and_eq_true, Bool.not_eq_true', decide_eq_false_iff_not]
  exact ⟨nI_pos (by omega), nI_ge hj (by omega), nI_ge (a := j) (b := 5) (by omega) (by omega)⟩
theorem has_of {n : Nat} {p : Int32} (hn : n ≤ 5) (h : hasI (nI n) p = true) : ∃ j, j < n ∧ p = nI j := by
  obtain ⟨j, hj, rfl⟩ := vp_in_of (hasI_in h) (by decide)
  simp only [hasI, Bool.and_eq_true, Bool.not_eq_true', decide_eq_false_iff_not] at h
  exact ⟨j, by
    rcases Nat.lt_or_ge j n with q | q
    · exact q
    · exact absurd (nI_le q (by omega)) h.2.1, rfl⟩
theorem in15 {i : Nat} (h : i < 43) : vp_in (nI i) 43 := vp_in_nI h (by omega)
def inI (v a b : Int32) : Bool := !decide (v < a) && !decide (b < v)
theorem wide_lt (a b : Int32) : a.toInt64 < b.toInt64 ↔ a < b := by rw [Int64.lt_iff_toInt_lt, Int32.lt_iff_toInt_lt, Int32.toInt_toInt64, Int32.toInt_toInt64]
theorem lt1 (x : Int32) : x < 1 ↔ x ≤ 0 := by
  rw [Int32.lt_iff_toInt_lt, Int32.le_iff_toInt_le, show (1 : Int32).toInt = 1 from rfl, show (0 : Int32).toInt = 0 from rfl]
  omega
theorem in_has (n : Nat) (p : Int32) (hn : n ≤ 5) : inI p 0 (nI n - 1) = hasI (nI n) p := by
  have e1 : (nI n - 1).toInt = (n : Int) - 1 := pk_sub_toInt (b := 1) (by omega) (by omega)
  have e2 : (nI n).toInt = (n : Int) := nI_toInt (by omega)
  have e0 : (0 : Int32).toInt = 0 := rfl
  have e5 : (5 : Int32).toInt = 5 := rfl
  rw [Bool.eq_iff_iff]
  simp only [inI, hasI, Bool.and_eq_true, Bool.not_eq_true', decide_eq_false_iff_not, Int32.lt_iff_toInt_lt, Int32.le_iff_toInt_le, e0, e1, e2, e5]
  omega
theorem hx1 (y : Int32) : y &&& 1 = 0 ∨ y &&& 1 = 1 := by
  have e : y &&& 1 = nI (y.toBitVec.toNat % 2 ^ 1) := pk_and y 1 rfl
  have h2 : y.toBitVec.toNat % 2 ^ 1 = 0 ∨ y.toBitVec.toNat % 2 ^ 1 = 1 := by omega
  rcases h2 with h2 | h2
  · left; rw [e, h2]; rfl
  · right; rw [e, h2]; rfl
set_option maxRecDepth 20000 in
theorem fn_in {G : kx_G} {d N : Nat} {h : kx_H} {v a b : Int32}  : kx_Fn mX5_in d 0 0 G [.long v.toInt64, .long a.toInt64, .long b.toInt64] N h (some (.int (kb (inI v a b))), N, h) := by
  refine kx_Fn_of rfl (Nat.le_of_ble_eq_true rfl) rfl ?_ kx_self
  refine ko_lload_n (i := 0) dX5_in_0 rfl rfl ?_
  refine ko_lload_n (i := 2) dX5_in_1 rfl rfl ?_
  refine ko_lcmp dX5_in_2 ?_
  refine ko_if_lt (tgt := 17) dX5_in_3 (by decide) (fun c_3 => ?_) (fun c_3 => ?_)
  · rw [lg_cmp_lt, wide_lt] at c_3
    refine ko_iconst (v := 0) dX5_in_17 (by decide) ?_
    refine ko_zret dX5_in_18 rfl rfl (Nat.le_of_ble_eq_true rfl) (Nat.le_of_ble_eq_true rfl) ?_
    simp [kb, inI, c_3]
  · rw [lg_cmp_lt, wide_lt] at c_3
    refine ko_lload_n (i := 0) dX5_in_6 rfl rfl ?_
    refine ko_lload (i := 4) dX5_in_7 rfl ?_
    refine ko_lcmp dX5_in_9 ?_
    refine ko_if_gt (tgt := 17) dX5_in_10 (by decide) (fun c_10 => ?_) (fun c_10 => ?_)
    · rw [lg_cmp_gt, wide_lt] at c_10
      refine ko_iconst (v := 0) dX5_in_17 (by decide) ?_
      refine ko_zret dX5_in_18 rfl rfl (Nat.le_of_ble_eq_true rfl) (Nat.le_of_ble_eq_true rfl) ?_
      simp [kb, inI, c_3, c_10]
    · rw [lg_cmp_gt, wide_lt] at c_10
      refine ko_iconst (v := 1) dX5_in_13 (by decide) ?_
      refine ko_goto (tgt := 18) dX5_in_14 (by decide) ?_
      refine ko_zret dX5_in_18 rfl rfl (Nat.le_of_ble_eq_true rfl) (Nat.le_of_ble_eq_true rfl) ?_
      simp [kb, inI, c_3, c_10]
def hmI (s k : Int32) : Bool := decide ((s >>> (k &&& 31)) &&& 1 = 1)
theorem hm_hb (s : Int32) (k : Nat) (hk : k < 5) : hmI s (nI k) = hbI s (nI k) := by
  rw [Bool.eq_iff_iff]
  simp only [hmI, hbI, Bool.and_eq_true, Bool.not_eq_true', decide_eq_false_iff_not, decide_eq_true_eq]
  rcases hx1 (s >>> (nI k &&& 31)) with e | e
  · rw [e]; exact ⟨fun z => absurd z (by decide), fun z => absurd rfl z.2.2⟩
  · rw [e]; exact ⟨fun _ => ⟨nI_pos (by omega), nI_ge (a := k) (b := 5) hk (by omega), by decide⟩, fun _ => rfl⟩
set_option maxRecDepth 20000 in
theorem fn_mhasR {G : kx_G} {d N : Nat} {h : kx_H} {s k : Int32}  : kx_Fn mX5_has d 0 0 G [.int s, .int k] N h (some (.int (kb (hmI s k))), N, h) := by
  refine kx_Fn_of rfl (Nat.le_of_ble_eq_true rfl) rfl ?_ kx_self
  refine ko_iload_n (i := 0) dX5_has_0 rfl rfl ?_
  refine ko_iload_n (i := 1) dX5_has_1 rfl rfl ?_
  refine ko_ishr dX5_has_2 ?_
  refine ko_iconst (v := 1) dX5_has_3 (by decide) ?_
  refine ko_iand dX5_has_4 ?_
  refine ko_iconst (v := 1) dX5_has_5 (by decide) ?_
  refine ko_icmp_ne (tgt := 13) dX5_has_6 (by decide) (fun c_6 => ?_) (fun c_6 => ?_)
  · refine ko_iconst (v := 0) dX5_has_13 (by decide) ?_
    refine ko_zret dX5_has_14 rfl rfl (Nat.le_of_ble_eq_true rfl) (Nat.le_of_ble_eq_true rfl) ?_
    simp [kb, hmI, c_6]
  · refine ko_iconst (v := 1) dX5_has_9 (by decide) ?_
    refine ko_goto (tgt := 14) dX5_has_10 (by decide) ?_
    refine ko_zret dX5_has_14 rfl rfl (Nat.le_of_ble_eq_true rfl) (Nat.le_of_ble_eq_true rfl) ?_
    simp [kb, hmI, c_6]
theorem fn_mhas {G : kx_G} {d N k : Nat} {h : kx_H} {s : Int32} (hk : k < 5) : kx_Fn mX5_has d 0 0 G [.int s, .int (nI k)] N h (some (.int (kb (hbI s (nI k)))), N, h) := by
  rw [← hm_hb s k hk]
  exact fn_mhasR
def mnI (s : Int32) : Nat → Int32
  | 0 => 0
  | i + 1 => mnI s i + ((s >>> (nI i &&& 31)) &&& 1)
theorem mn_bc : ∀ i, i < 32 → mnI (nI i) 5 = bcI (nI i) := by decide +kernel
set_option maxRecDepth 20000 in
theorem fn_many {G : kx_G} {d N : Nat} {h : kx_H} {s : Int32} : kx_Fn mX5_many d 0 0 G [.int s] N h (some (.int (mnI s 5)), N, h) := by
  refine kx_Fn_of rfl (Nat.le_of_ble_eq_true rfl) rfl ?_ kx_self
  have LOOP : ∀ (k i : Nat), k + i = 5 → kx_Ok mX5_many d 0 0 G 0 0 4 [(0, .int s), (1, .int (mnI s i)), (2, .int (nI i))] [] N h (some (.int (mnI s 5)), N, h) := by
    intro k
    induction k with
    | zero =>
      intro i hi
      obtain rfl : i = 5 := by omega
      refine ko_iload_n (i := 2) dX5_many_4 rfl rfl ?_
      refine ko_iconst (v := 5) dX5_many_5 (by decide) ?_
      refine ko_icmp_ge (tgt := 23) dX5_many_6 (by decide) (fun c_6 => ?_) (fun c_6 => ?_)
      · refine ko_iload_n (i := 1) dX5_many_23 rfl rfl ?_
        refine ko_iret dX5_many_24 rfl (Nat.le_of_ble_eq_true rfl) (Nat.le_of_ble_eq_true rfl) ?_
        rfl
      · exact absurd (show (5 : Int32) ≤ nI 5 by decide) c_6
    | succ k ih =>
      intro i hi
      refine ko_iload_n (i := 2) dX5_many_4 rfl rfl ?_
      refine ko_iconst (v := 5) dX5_many_5 (by decide) ?_
      refine ko_icmp_ge (tgt := 23) dX5_many_6 (by decide) (fun c_6 => ?_) (fun c_6 => ?_)
      · exact absurd (show nI 5 ≤ nI i from c_6) (nI_ge (by omega) (by omega))
      · refine ko_iload_n (i := 1) dX5_many_9 rfl rfl ?_
        refine ko_iload_n (i := 0) dX5_many_10 rfl rfl ?_
        refine ko_iload_n (i := 2) dX5_many_11 rfl rfl ?_
        refine ko_ishr dX5_many_12 ?_
        refine ko_iconst (v := 1) dX5_many_13 (by decide) ?_
        refine ko_iand dX5_many_14 ?_
        refine ko_iadd dX5_many_15 ?_
        refine ko_istore_n (i := 1) (lv' := [(0, _), (1, _), (2, _)]) dX5_many_16 rfl (by decide) rfl rfl rfl ?_
        refine ko_inc1 (i := 2) (lv' := [(0, _), (1, _), (2, _)]) dX5_many_17 rfl (by decide) rfl rfl rfl ?_
        refine ko_goto (tgt := 4) dX5_many_20 (by decide) ?_
        exact ko_lv (by simp [mnI, nI_succ]) (ih (i + 1) (by omega))
  refine ko_iconst (v := 0) dX5_many_0 (by decide) ?_
  refine ko_istore_n (i := 1) (lv' := [(0, _), (1, _)]) dX5_many_1 rfl (by decide) rfl rfl rfl ?_
  refine ko_iconst (v := 0) dX5_many_2 (by decide) ?_
  refine ko_istore_n (i := 2) (lv' := [(0, _), (1, _), (2, _)]) dX5_many_3 rfl (by decide) rfl rfl rfl ?_
  exact LOOP 5 0 rfl
set_option maxRecDepth 20000 in
theorem fn_noPerson {G : kx_G} {d N m n : Nat} {h : kx_H} {o : MO} {p : Int32} (o0 : h m = some (kmo m o)) (hn : mN o = nI n) (hm : n ≤ 5) (hd : 1 ≤ d) : kx_Fn mX5_noPerson d 0 0 G [.ref m, .int p] N h (some (.int (kb (!hasI (nI n) p))), N, h) := by
  refine kx_Fn_of rfl (Nat.le_of_ble_eq_true rfl) rfl ?_ (kx_self)
  refine ko_iload_n (i := 1) dX5_noPerson_0 rfl rfl ?_
  refine ko_i2l dX5_noPerson_1 ?_
  refine ko_lconst (v := 0) dX5_noPerson_2 (by decide) ?_
  refine ko_aload_n (i := 0) dX5_noPerson_3 rfl rfl ?_
  refine ko_get fl_X5_45 dX5_noPerson_4 o0 rfl ?_
  refine ko_iconst (v := 1) dX5_noPerson_7 (by decide) ?_
  refine ko_isub dX5_noPerson_8 ?_
  refine ko_i2l dX5_noPerson_9 ?_
  refine ko_callSr lk_X5_48 dX5_noPerson_10 (fn_in (d := d - 1) (v := p) (a := 0) (b := mN o - 1)) rfl rfl (by omega) (by omega) (by omega) (Nat.le_of_ble_eq_true rfl) ?_
  first | refine ko_ifb_ne (tgt := 20) dX5_noPerson_13 (by decide) (fun c_13 => ?_) (fun c_13 => ?_) | refine ko_if_ne (tgt := 20) dX5_noPerson_13 (by decide) (fun c_13 => ?_) (fun c_13 => ?_)
  · refine ko_iconst (v := 0) dX5_noPerson_20 (by decide) ?_
    refine ko_zret dX5_noPerson_21 rfl rfl (Nat.le_of_ble_eq_true rfl) (Nat.le_of_ble_eq_true rfl) ?_
    rw [hn, in_has n p hm] at c_13
    simp [kb, c_13]
  · refine ko_iconst (v := 1) dX5_noPerson_16 (by decide) ?_
    refine ko_goto (tgt := 21) dX5_noPerson_17 (by decide) ?_
    refine ko_zret dX5_noPerson_21 rfl rfl (Nat.le_of_ble_eq_true rfl) (Nat.le_of_ble_eq_true rfl) ?_
    rw [hn, in_has n p hm] at c_13
    simp [kb, c_13]
set_option maxRecDepth 20000 in
theorem fn_meveryone {G : kx_G} {d N m n : Nat} {h : kx_H} {o : MO} (o0 : h m = some (kmo m o)) : kx_Fn mX5_everyone d 0 0 G [.ref m] N h (some (.int (evI (mN o))), N, h) := by
  refine kx_Fn_of rfl (Nat.le_of_ble_eq_true rfl) rfl ?_ (kx_self)
  refine ko_iconst (v := 1) dX5_everyone_0 (by decide) ?_
  refine ko_aload_n (i := 0) dX5_everyone_1 rfl rfl ?_
  refine ko_get fl_X5_45 dX5_everyone_2 o0 rfl ?_
  refine ko_ishl dX5_everyone_5 ?_
  refine ko_iconst (v := 1) dX5_everyone_6 (by decide) ?_
  refine ko_isub dX5_everyone_7 ?_
  refine ko_iret dX5_everyone_8 rfl (Nat.le_of_ble_eq_true rfl) (Nat.le_of_ble_eq_true rfl) ?_
  rfl
set_option maxRecDepth 20000 in
theorem fn_mounces {G : kx_G} {d N m n : Nat} {h : kx_H} {o : MO} {Kf f : Nat → Int32} {u : PU} {t i : Nat} (o0 : h m = some (kmo m o)) (k0 : h (m + 2) = some (ka 5 Kf)) (hk : ∀ j, j < n → Kf j = pKd u j) (t0 : h t = some (ka 43 f)) (hp : pgR f u) (hw : WF u n) (hi : i < n) : kx_Fn mX5_ouncesOf d 0 0 G [.ref m, .ref t, .int (nI i)] N h (some (.int (ozI u (nI i))), N, h) := by
  refine kx_Fn_of rfl (Nat.le_of_ble_eq_true rfl) rfl ?_ (kx_self)
  obtain ⟨hn, hn5, hso, hag, hkd, hkn, hop, hon, hz⟩ := id hw
  obtain ⟨p1, p2, p3, p4, p5, p6, p7⟩ := id hp
  refine ko_aload_n (i := 1) dX5_ouncesOf_0 rfl rfl ?_
  refine ko_iconst (v := 0) dX5_ouncesOf_1 (by decide) ?_
  refine ko_iload_n (i := 2) dX5_ouncesOf_2 rfl rfl ?_
  refine ko_iadd dX5_ouncesOf_3 ?_
  rw [a0]
  refine ko_iald dX5_ouncesOf_4 t0 (in15 (by omega)) ?_
  rw [nI_clamp (by omega), p1 i (by omega)]
  refine ko_istore_n (i := 3) (lv' := [(0, _), (1, _), (2, _), (3, _)]) dX5_ouncesOf_5 rfl (by decide) rfl rfl rfl ?_
  refine ko_aload_n (i := 1) dX5_ouncesOf_6 rfl rfl ?_
  refine ko_iconst (v := 5) dX5_ouncesOf_7 (by decide) ?_
  refine ko_iload_n (i := 2) dX5_ouncesOf_8 rfl rfl ?_
  refine ko_iadd dX5_ouncesOf_9 ?_
  rw [a5]
  refine ko_iald dX5_ouncesOf_10 t0 (in15 (by omega)) ?_
  rw [nI_clamp (by omega), p2 i (by omega)]
  refine ko_iconst (v := 2) dX5_ouncesOf_11 (by decide) ?_
  refine ko_icmp_lt (tgt := 19) dX5_ouncesOf_12 (by decide) (fun c_12 => ?_) (fun c_12 => ?_)
  · have c2 : ¬ 2 ≤ pAg u i := Int32.not_le.mpr c_12
    refine ko_iconst (v := 0) dX5_ouncesOf_19 (by decide) ?_
    refine ko_istore (i := 4) (lv' := [(0, _), (1, _), (2, _), (3, _), (4, _)]) dX5_ouncesOf_20 (by decide) rfl rfl rfl ?_
    refine ko_aload_n (i := 0) dX5_ouncesOf_22 rfl rfl ?_
    refine ko_get fl_X5_13 dX5_ouncesOf_23 o0 rfl ?_
    refine ko_iload_n (i := 2) dX5_ouncesOf_26 rfl rfl ?_
    refine ko_iald dX5_ouncesOf_27 k0 (ix5 (by omega)) ?_
    rw [nI_clamp (by omega), hk i hi]
    obtain ⟨w9, hw9⟩ : ∃ w9, pKd u i = w9 := ⟨_, rfl⟩
    rw [hw9]
    rcases tsw w9 2 (by omega) with ho | ⟨k9, hk9, rfl⟩
    · refine ko_tableOut (tgt := 86) dX5_ouncesOf_28 ho (by decide) ?_
      refine ko_iconst (v := 0) dX5_ouncesOf_86 (by decide) ?_
      refine ko_iret dX5_ouncesOf_87 rfl (Nat.le_of_ble_eq_true rfl) (Nat.le_of_ble_eq_true rfl) ?_
      have hh := hasT hn5 hi
      rw [← hn] at hh
      obtain ⟨k8, hk8, e8⟩ := hkd i (by omega)
      rw [hw9] at e8
      have h3 : k8 = 3 := by
        have := tsw_ne ho (by omega)
        rcases Nat.lt_or_ge k8 3 with q | q
        · exact absurd e8 (this k8 (by omega))
        · omega
      unfold ozI
      rw [if_neg (by rw [hh]; decide), nI_clamp (by omega), hw9, e8, h3]
      rfl
    · rcases (show k9 = 0 ∨ k9 = 1 ∨ k9 = 2 by omega) with rfl | rfl | rfl
      · refine ko_tableIn (off := 28) (tgt := 56) dX5_ouncesOf_28 (by decide) (by decide) rfl (by decide) ?_
        refine ko_iload (i := 4) dX5_ouncesOf_56 rfl ?_
        refine ko_if_eq (tgt := 67) dX5_ouncesOf_58 (by decide) (fun c_58 => ?_) (fun c_58 => absurd c_58 (by decide))
        refine ko_iconst (v := 0) dX5_ouncesOf_67 (by decide) ?_
        refine ko_iret dX5_ouncesOf_68 rfl (Nat.le_of_ble_eq_true rfl) (Nat.le_of_ble_eq_true rfl) ?_
        have hh := hasT hn5 hi
        rw [← hn] at hh
        unfold ozI
        rw [if_neg (by rw [hh]; decide), nI_clamp (by omega), hw9, if_neg (by decide)]
        first
          | rfl
          | (rw [if_neg (by decide), if_pos c2]; try rfl)
          | (rw [if_neg (by decide), if_neg (fun z => z c2)]; try rfl)
      · refine ko_tableIn (off := 41) (tgt := 69) dX5_ouncesOf_28 (by decide) (by decide) rfl (by decide) ?_
        refine ko_iload (i := 4) dX5_ouncesOf_69 rfl ?_
        refine ko_if_eq (tgt := 80) dX5_ouncesOf_71 (by decide) (fun c_71 => ?_) (fun c_71 => absurd c_71 (by decide))
        refine ko_iconst (v := 0) dX5_ouncesOf_80 (by decide) ?_
        refine ko_iret dX5_ouncesOf_81 rfl (Nat.le_of_ble_eq_true rfl) (Nat.le_of_ble_eq_true rfl) ?_
        have hh := hasT hn5 hi
        rw [← hn] at hh
        unfold ozI
        rw [if_neg (by rw [hh]; decide), nI_clamp (by omega), hw9, if_neg (by decide)]
        first
          | rfl
          | (rw [if_neg (by decide), if_pos c2]; try rfl)
          | (rw [if_neg (by decide), if_neg (fun z => z c2)]; try rfl)
      · refine ko_tableIn (off := 54) (tgt := 82) dX5_ouncesOf_28 (by decide) (by decide) rfl (by decide) ?_
        refine ko_iload_n (i := 3) dX5_ouncesOf_82 rfl rfl ?_
        refine ko_iconst (v := 2) dX5_ouncesOf_83 (by decide) ?_
        refine ko_idiv dX5_ouncesOf_84 (by decide) ?_
        refine ko_iret dX5_ouncesOf_85 rfl (Nat.le_of_ble_eq_true rfl) (Nat.le_of_ble_eq_true rfl) ?_
        have hh := hasT hn5 hi
        rw [← hn] at hh
        unfold ozI
        rw [if_neg (by rw [hh]; decide), nI_clamp (by omega), hw9, if_neg (by decide)]
        first
          | rfl
          | (rw [if_neg (by decide), if_pos c2]; try rfl)
          | (rw [if_neg (by decide), if_neg (fun z => z c2)]; try rfl)
  · have c2 : 2 ≤ pAg u i := Int32.not_lt.mp c_12
    refine ko_iconst (v := 1) dX5_ouncesOf_15 (by decide) ?_
    refine ko_goto (tgt := 20) dX5_ouncesOf_16 (by decide) ?_
    refine ko_istore (i := 4) (lv' := [(0, _), (1, _), (2, _), (3, _), (4, _)]) dX5_ouncesOf_20 (by decide) rfl rfl rfl ?_
    refine ko_aload_n (i := 0) dX5_ouncesOf_22 rfl rfl ?_
    refine ko_get fl_X5_13 dX5_ouncesOf_23 o0 rfl ?_
    refine ko_iload_n (i := 2) dX5_ouncesOf_26 rfl rfl ?_
    refine ko_iald dX5_ouncesOf_27 k0 (ix5 (by omega)) ?_
    rw [nI_clamp (by omega), hk i hi]
    obtain ⟨w9, hw9⟩ : ∃ w9, pKd u i = w9 := ⟨_, rfl⟩
    rw [hw9]
    rcases tsw w9 2 (by omega) with ho | ⟨k9, hk9, rfl⟩
    · refine ko_tableOut (tgt := 86) dX5_ouncesOf_28 ho (by decide) ?_
      refine ko_iconst (v := 0) dX5_ouncesOf_86 (by decide) ?_
      refine ko_iret dX5_ouncesOf_87 rfl (Nat.le_of_ble_eq_true rfl) (Nat.le_of_ble_eq_true rfl) ?_
      have hh := hasT hn5 hi
      rw [← hn] at hh
      obtain ⟨k8, hk8, e8⟩ := hkd i (by omega)
      rw [hw9] at e8
      have h3 : k8 = 3 := by
        have := tsw_ne ho (by omega)
        rcases Nat.lt_or_ge k8 3 with q | q
        · exact absurd e8 (this k8 (by omega))
        · omega
      unfold ozI
      rw [if_neg (by rw [hh]; decide), nI_clamp (by omega), hw9, e8, h3]
      rfl
    · rcases (show k9 = 0 ∨ k9 = 1 ∨ k9 = 2 by omega) with rfl | rfl | rfl
      · refine ko_tableIn (off := 28) (tgt := 56) dX5_ouncesOf_28 (by decide) (by decide) rfl (by decide) ?_
        refine ko_iload (i := 4) dX5_ouncesOf_56 rfl ?_
        refine ko_if_eq (tgt := 67) dX5_ouncesOf_58 (by decide) (fun c_58 => absurd c_58 (by decide)) (fun c_58 => ?_)
        refine ko_iload_n (i := 3) dX5_ouncesOf_61 rfl rfl ?_
        refine ko_iconst (v := 3) dX5_ouncesOf_62 (by decide) ?_
        refine ko_idiv dX5_ouncesOf_63 (by decide) ?_
        refine ko_goto (tgt := 68) dX5_ouncesOf_64 (by decide) ?_
        refine ko_iret dX5_ouncesOf_68 rfl (Nat.le_of_ble_eq_true rfl) (Nat.le_of_ble_eq_true rfl) ?_
        have hh := hasT hn5 hi
        rw [← hn] at hh
        unfold ozI
        rw [if_neg (by rw [hh]; decide), nI_clamp (by omega), hw9, if_neg (by decide)]
        first
          | rfl
          | (rw [if_neg (by decide), if_pos c2]; try rfl)
          | (rw [if_neg (by decide), if_neg (fun z => z c2)]; try rfl)
      · refine ko_tableIn (off := 41) (tgt := 69) dX5_ouncesOf_28 (by decide) (by decide) rfl (by decide) ?_
        refine ko_iload (i := 4) dX5_ouncesOf_69 rfl ?_
        refine ko_if_eq (tgt := 80) dX5_ouncesOf_71 (by decide) (fun c_71 => absurd c_71 (by decide)) (fun c_71 => ?_)
        refine ko_iload_n (i := 3) dX5_ouncesOf_74 rfl rfl ?_
        refine ko_iconst (v := 4) dX5_ouncesOf_75 (by decide) ?_
        refine ko_idiv dX5_ouncesOf_76 (by decide) ?_
        refine ko_goto (tgt := 81) dX5_ouncesOf_77 (by decide) ?_
        refine ko_iret dX5_ouncesOf_81 rfl (Nat.le_of_ble_eq_true rfl) (Nat.le_of_ble_eq_true rfl) ?_
        have hh := hasT hn5 hi
        rw [← hn] at hh
        unfold ozI
        rw [if_neg (by rw [hh]; decide), nI_clamp (by omega), hw9, if_neg (by decide)]
        first
          | rfl
          | (rw [if_neg (by decide), if_pos c2]; try rfl)
          | (rw [if_neg (by decide), if_neg (fun z => z c2)]; try rfl)
      · refine ko_tableIn (off := 54) (tgt := 82) dX5_ouncesOf_28 (by decide) (by decide) rfl (by decide) ?_
        refine ko_iload_n (i := 3) dX5_ouncesOf_82 rfl rfl ?_
        refine ko_iconst (v := 2) dX5_ouncesOf_83 (by decide) ?_
        refine ko_idiv dX5_ouncesOf_84 (by decide) ?_
        refine ko_iret dX5_ouncesOf_85 rfl (Nat.le_of_ble_eq_true rfl) (Nat.le_of_ble_eq_true rfl) ?_
        have hh := hasT hn5 hi
        rw [← hn] at hh
        unfold ozI
        rw [if_neg (by rw [hh]; decide), nI_clamp (by omega), hw9, if_neg (by decide)]
        first
          | rfl
          | (rw [if_neg (by decide), if_pos c2]; try rfl)
          | (rw [if_neg (by decide), if_neg (fun z => z c2)]; try rfl)
