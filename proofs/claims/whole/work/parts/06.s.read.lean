/-! ===== the reference's reading of a text: bytes, pairs ===== -/
theorem lt_T {T : Nat → Int32} {L p : Nat} (h : p < L) (hL : L ≤ 48) : ltI T (nI L) (nI p) = T p := by
  unfold ltI
  rw [if_neg (nI_pos (by omega)), if_neg (nI_ge h (by omega)), if_neg (show ¬ (48 : Int32) ≤ nI p from nI_ge (a := p) (b := 48) (by omega) (by omega)), nI_clamp (by omega)]
theorem lt_no {T : Nat → Int32} {L p : Nat} (h : L ≤ p) (hp : p < 1000) : ltI T (nI L) (nI p) = -1 := by
  unfold ltI
  rw [if_neg (nI_pos (by omega)), if_pos (nI_le h (by omega))]
theorem s48 (x : Int32) : x - 48 + 48 = x := by
  first
    | exact Int32.sub_add_cancel x 48
    | rw [Int32.sub_eq_add_neg, Int32.add_assoc, show (-48 : Int32) + 48 = 0 from by decide, Int32.add_zero]
theorem fig_in {x : Int32} {b : Nat} (hb : b ≤ 9) (h : inI (x - 48) 0 (nI b) = true) : ∃ v, v ≤ b ∧ x = nI (48 + v) := by
  rw [inR, Bool.and_eq_true, Bool.not_eq_true', decide_eq_false_iff_not, decide_eq_true_eq] at h
  obtain ⟨v, hv, e⟩ := nI_of2 (nI_toInt (by omega)) h.1 h.2
  refine ⟨v, hv, ?_⟩
  rw [← s48 x, e, show (48 : Int32) = nI 48 from rfl, nI_add, Nat.add_comm]
theorem fig_v (v : Nat) : nI (48 + v) - 48 = nI v := by
  rw [show (48 : Int32) = nI 48 from rfl, pk_sub (by omega), Nat.add_sub_cancel_left]
theorem in_nI {v b : Nat} (hv : v < 1000) (hb : b < 1000) : inI (nI v) 0 (nI b) = decide (v ≤ b) := by
  rw [inR, decide_eq_false (nI_pos (by omega)), Bool.not_false, Bool.true_and, decide_eq_decide]
  exact nI_leI (by omega) (by omega)
/-- a digit of the text, or none -/
theorem dg_cases {T : Nat → Int32} {L p : Nat} (hL : L ≤ 48) (hp : p < 1000) : (∃ v, v ≤ 9 ∧ dgI T (nI L) (nI p) = nI v ∧ p < L ∧ T p = nI (48 + v)) ∨ (dgI T (nI L) (nI p) = -1 ∧ (L ≤ p ∨ inI (T p - 48) 0 9 = false)) := by
  rcases Nat.lt_or_ge p L with h | h
  · cases hi : inI (T p - 48) 0 9 with
    | true =>
      obtain ⟨v, hv, e⟩ := fig_in (b := 9) (by omega) hi
      refine Or.inl ⟨v, hv, ?_, h, e⟩
      unfold dgI
      rw [lt_T h hL, e, if_neg (show ¬ nI (48 + v) < 48 from nI_nlt (a := 48 + v) (b := 48) (by omega) (by omega)), if_neg (show ¬ 57 < nI (48 + v) from nI_nlt (a := 57) (b := 48 + v) (by omega) (by omega)), fig_v]
    | false =>
      refine Or.inr ⟨?_, Or.inr rfl⟩
      unfold dgI
      rw [lt_T h hL]
      by_cases h1 : T p < 48
      · rw [if_pos h1]
      · rw [if_neg h1]
        by_cases h2 : 57 < T p
        · rw [if_pos h2]
        · exfalso
          obtain ⟨k, hk, e⟩ := nI_of2 (M := 57) (n := 57) rfl (fun z => h1 (by
            rw [Int32.lt_iff_toInt_lt] at z ⊢
            have e0 : (0 : Int32).toInt = 0 := rfl
            have e48 : (48 : Int32).toInt = 48 := rfl
            omega)) (Int32.not_lt.mp h2)
          have hk48 : 48 ≤ k := by
            rcases Nat.lt_or_ge k 48 with q | q
            · exact absurd (show T p < 48 by rw [e]; exact nI_lt (a := k) (b := 48) q (by omega)) h1
            · exact q
          rw [e, show k = 48 + (k - 48) by omega, fig_v, show (9 : Int32) = nI 9 from rfl, in_nI (by omega) (by omega), decide_eq_true (by omega)] at hi
          exact absurd hi (by decide)
  · refine Or.inr ⟨?_, Or.inl h⟩
    unfold dgI
    rw [lt_no h hp]
    rfl
def rdR (rp rk : Nat → Int32) (r : Nat) (v : PU) : Prop := WF v r ∧ pOp v = 0 ∧ pOn v = 0 ∧ pWk v = 0 ∧ (∀ j, j < 25 → pOw v j = 0) ∧ (∀ j, j < r → rp (3 * j) = pSo v j ∧ rp (3 * j + 1) = pAg v j ∧ rp (3 * j + 2) = pKd v j ∧ rk j = pKn v j) ∧ (∀ j, r ≤ j → j < 5 → pSo v j = 0 ∧ pAg v j = 0 ∧ pKn v j = 0)
theorem rd_0 (rp rk : Nat → Int32) : rdR rp rk 0 pZ := ⟨WF_Z, rfl, rfl, rfl, fun _ _ => rfl, fun j hj => absurd hj (Nat.not_lt_zero j), fun _ _ _ => ⟨rfl, rfl, rfl⟩⟩
theorem ad_eq {v : PU} {r : Nat} {s g k : Int32} (e : pN v = nI r) (hr : r < 5) : adU v s g k = (upd (pSo v) r s, upd (pAg v) r g, upd (pKd v) r k, v.2.2.2.1, v.2.2.2.2.1, nI (r + 1), v.2.2.2.2.2.2) := by
  unfold adU
  rw [e, if_neg (nI_pos (by omega)), if_neg (show ¬ (5 : Int32) ≤ nI r from nI_ge (a := r) (b := 5) hr (by omega)), nI_clamp (by omega), nI_1]
theorem rd_add {rp rk : Nat → Int32} {r : Nat} {v : PU} (h : rdR rp rk r v) (hr : r < 5) {s a k : Nat} (hs : s ≤ 9) (ha : a ≤ 9) (hk : k ≤ 3) : rdR (upd (upd (upd rp (3 * r + 0) (nI s)) (3 * r + 1) (nI a)) (3 * r + 2) (nI k)) (upd rk r 0) (r + 1) (adU v (nI s) (nI a) (nI k)) := by
  obtain ⟨⟨w1, w2, w3, w4, w5, w6, w7, w8, w9⟩, d2, d3, d4, d5, d6, d7⟩ := h
  rw [ad_eq w1 hr]
  have p2 : 2 ^ r ≤ 2 ^ (r + 1) := Nat.pow_le_pow_right (by omega) (by omega)
  refine ⟨⟨rfl, by omega, fun j hj => ?_, fun j hj => ?_, fun j hj => ?_, fun j hj => ?_, ?_, ?_, fun j hj hj5 => ?_⟩, d2, d3, d4, d5, fun j hj => ?_, fun j hj hj5 => ?_⟩
  · show ∃ z, z ≤ 9 ∧ upd (pSo v) r (nI s) j = nI z
    by_cases h1 : j = r
    · subst h1; exact ⟨s, hs, pk_us⟩
    · rw [pk_un h1]; exact w3 j hj
  · show ∃ z, z ≤ 99 ∧ upd (pAg v) r (nI a) j = nI z
    by_cases h1 : j = r
    · subst h1; exact ⟨a, by omega, pk_us⟩
    · rw [pk_un h1]; exact w4 j hj
  · show ∃ z, z ≤ 3 ∧ upd (pKd v) r (nI k) j = nI z
    by_cases h1 : j = r
    · subst h1; exact ⟨k, hk, pk_us⟩
    · rw [pk_un h1]; exact w5 j hj
  · obtain ⟨z, hz, e⟩ := w6 j hj
    exact ⟨z, by omega, e⟩
  · obtain ⟨z, hz, e⟩ := w7
    exact ⟨z, by omega, e⟩
  · obtain ⟨z, hz, e⟩ := w8
    exact ⟨z, by omega, e⟩
  · show upd (pSo v) r (nI s) j = 0
    rw [pk_un (by omega)]; exact w9 j (by omega) hj5
  · show _ = upd (pSo v) r (nI s) j ∧ _ = upd (pAg v) r (nI a) j ∧ _ = upd (pKd v) r (nI k) j ∧ upd rk r 0 j = pKn v j
    by_cases h1 : j = r
    · subst h1
      refine ⟨?_, ?_, ?_, ?_⟩
      · rw [pk_us, pk_un (by omega), pk_un (by omega)]; exact pk_us
      · rw [pk_us, pk_un (by omega)]; exact pk_us
      · exact pk_us.trans pk_us.symm
      · rw [pk_us]; exact (d7 j (Nat.le_refl j) hr).2.2.symm
    · obtain ⟨q1, q2, q3, q4⟩ := d6 j (by omega)
      refine ⟨?_, ?_, ?_, ?_⟩
      · rw [pk_un h1, pk_un (by omega), pk_un (by omega), pk_un (by omega)]; exact q1
      · rw [pk_un h1, pk_un (by omega), pk_un (by omega), pk_un (by omega)]; exact q2
      · rw [pk_un h1, pk_un (by omega), pk_un (by omega), pk_un (by omega)]; exact q3
      · rw [pk_un h1]; exact q4
  · show upd (pSo v) r (nI s) j = 0 ∧ upd (pAg v) r (nI a) j = 0 ∧ pKn v j = 0
    rw [pk_un (by omega), pk_un (by omega)]
    exact d7 j (by omega) hj5
theorem mk_eq {u : PU} {n i j : Nat} (hw : WF u n) (hi : i < n) (hj : j < n) : mkU u (nI i) (nI j) = (u.1, u.2.1, u.2.2.1, upd (upd (pKn u) i (pKn u i ||| 1 <<< (nI j &&& 31))) j ((upd (pKn u) i (pKn u i ||| 1 <<< (nI j &&& 31))) j ||| 1 <<< (nI i &&& 31)), u.2.2.2.2) := by
  have hn5 := hw.2.1
  unfold mkU
  rw [if_pos (hasW hw hi), if_pos (hasW hw hj), nI_clamp (by omega), nI_clamp (by omega)]
theorem WF_mk {u : PU} {n i j : Nat} (hw : WF u n) (hi : i < n) (hj : j < n) : WF (mkU u (nI i) (nI j)) n := by
  obtain ⟨w1, w2, w3, w4, w5, w6, w7, w8, w9⟩ := id hw
  rw [mk_eq hw hi hj]
  have inner : ∀ k, k < 5 → ∃ z, z < 2 ^ n ∧ upd (pKn u) i (pKn u i ||| 1 <<< (nI j &&& 31)) k = nI z := fun k hk => by
    by_cases h1 : k = i
    · subst h1
      obtain ⟨z, hz, ez⟩ := w6 k hk
      exact ⟨setN z j, set_lt n (by omega) j hj z hz, by rw [pk_us, ez]; exact set_eq j (by omega) z (lt32 hz w2)⟩
    · rw [pk_un h1]; exact w6 k hk
  refine ⟨w1, w2, w3, w4, w5, fun k hk => ?_, w7, w8, w9⟩
  show ∃ z, z < 2 ^ n ∧ upd (upd (pKn u) i (pKn u i ||| 1 <<< (nI j &&& 31))) j ((upd (pKn u) i (pKn u i ||| 1 <<< (nI j &&& 31))) j ||| 1 <<< (nI i &&& 31)) k = nI z
  by_cases h1 : k = j
  · subst h1
    obtain ⟨z, hz, ez⟩ := inner k hk
    exact ⟨setN z i, set_lt n (by omega) i hi z hz, by rw [pk_us, ez]; exact set_eq i (by omega) z (lt32 hz w2)⟩
  · rw [pk_un h1]; exact inner k hk
theorem rd_kin {rp rk : Nat → Int32} {r i j : Nat} {v : PU} (h : rdR rp rk r v) (hi : i < r) (hj : j < r) : rdR rp (upd (upd rk i (rk i ||| 1 <<< (nI j &&& 31))) j (upd rk i (rk i ||| 1 <<< (nI j &&& 31)) j ||| 1 <<< (nI i &&& 31))) r (mkU v (nI i) (nI j)) := by
  obtain ⟨hw, d2, d3, d4, d5, d6, d7⟩ := h
  refine ⟨WF_mk hw hi hj, ?_⟩
  rw [mk_eq hw hi hj]
  have e1 : ∀ k, k < r → upd rk i (rk i ||| 1 <<< (nI j &&& 31)) k = upd (pKn v) i (pKn v i ||| 1 <<< (nI j &&& 31)) k := fun k hk => by
    rw [(d6 i hi).2.2.2]
    by_cases h1 : k = i
    · subst h1; rw [pk_us, pk_us]
    · rw [pk_un h1, pk_un h1]; exact (d6 k hk).2.2.2
  refine ⟨d2, d3, d4, d5, fun k hk => ⟨(d6 k hk).1, (d6 k hk).2.1, (d6 k hk).2.2.1, ?_⟩, fun k hk hk5 => ⟨(d7 k hk hk5).1, (d7 k hk hk5).2.1, ?_⟩⟩
  · show upd (upd rk i (rk i ||| 1 <<< (nI j &&& 31))) j (upd rk i (rk i ||| 1 <<< (nI j &&& 31)) j ||| 1 <<< (nI i &&& 31)) k = upd (upd (pKn v) i (pKn v i ||| 1 <<< (nI j &&& 31))) j (upd (pKn v) i (pKn v i ||| 1 <<< (nI j &&& 31)) j ||| 1 <<< (nI i &&& 31)) k
    rw [e1 j hj]
    by_cases h1 : k = j
    · subst h1; rw [pk_us, pk_us]
    · rw [pk_un h1, pk_un h1]; exact e1 k hk
  · show upd (upd (pKn v) i _) j _ k = 0
    rw [pk_un (by omega), pk_un (by omega)]
    exact (d7 k hk hk5).2.2
/-- the heap while a text is read -/
abbrev rmo (m : Nat) (o : MO) (pl r : Int32) : va_E := .inr (5, [.int 0, .ref (m + 1), .int (mTs o), .int pl, .int (mN o), .ref (m + 2), .int r, .ref (m + 3), .ref (m + 4), .ref (m + 5), .ref (m + 6), .ref (m + 7), .int (mAc o), .ref (m + 8), .ref (m + 9), .long (mSd o), .int (mSm o), .int (mSo o), .int (mSw o), .ref (m + 10), .int (mRm o), .int (mRf o)])
def rH (h : kx_H) (m : Nat) (o : MO) (rp rk : Nat → Int32) (pl r : Int32) : kx_H := kx_up (kx_up (kx_up h (m + 3) (ka 15 rp)) (m + 4) (ka 5 rk)) m (rmo m o pl r)
section RH
variable {h : kx_H} {m : Nat} {o : MO} {rp rk : Nat → Int32} {pl r : Int32}
theorem rH_o : rH h m o rp rk pl r m = some (rmo m o pl r) := ku_s
theorem rH_p : rH h m o rp rk pl r (m + 3) = some (ka 15 rp) := (ku_n (by omega)).trans ((ku_n (by omega)).trans ku_s)
theorem rH_k : rH h m o rp rk pl r (m + 4) = some (ka 5 rk) := (ku_n (by omega)).trans ku_s
theorem rH_q {q : Nat} (h0 : q ≠ m) (h3 : q ≠ m + 3) (h4 : q ≠ m + 4) : rH h m o rp rk pl r q = h q := (ku_n h0).trans ((ku_n h4).trans (ku_n h3))
theorem rH_m (pl' r' : Int32) : kx_up (rH h m o rp rk pl r) m (rmo m o pl' r') = rH h m o rp rk pl' r' := ku_ku _ _ _ _
theorem rH_rp (g : Nat → Int32) : kx_up (rH h m o rp rk pl r) (m + 3) (ka 15 g) = rH h m o g rk pl r := by
  unfold rH
  rw [ku_two _ _ _ (by omega : m ≠ m + 3), ku_two _ _ _ (by omega : m + 4 ≠ m + 3), ku_ku]
theorem rH_rk (g : Nat → Int32) : kx_up (rH h m o rp rk pl r) (m + 4) (ka 5 g) = rH h m o rp g pl r := by
  unfold rH
  rw [ku_two _ _ _ (by omega : m ≠ m + 4), ku_ku]
theorem rH_dom {N : Nat} {rp' rk' : Nat → Int32} {pl' r' : Int32} : ∀ q e, rH h m o rp' rk' pl' r' q = some e → kx_dom (rH h m o rp rk pl r) N q := by
  intro q e he
  by_cases h0 : q = m
  · subst h0; exact kx_self _ _ rH_o
  · by_cases h3 : q = m + 3
    · subst h3; exact kx_self _ _ rH_p
    · by_cases h4 : q = m + 4
      · subst h4; exact kx_self _ _ rH_k
      · rw [rH_q h0 h3 h4, ← rH_q (h := h) (o := o) (rp := rp) (rk := rk) (pl := pl) (r := r) h0 h3 h4] at he
        exact kx_self _ _ he
end RH
set_option maxRecDepth 20000 in
theorem fg_ok {G : kx_G} {d N m L pl r : Nat} {h : kx_H} {o : MO} {T rp rk : Nat → Int32} {b v : Nat} (t1 : h (m + 1) = some (ka 48 T)) (r1 : mTs o = nI L) (hL : L ≤ 48) (hpl : pl < L) (hi : inI (T pl - 48) 0 (nI b) = true) (ev : T pl - 48 = nI v) (hd : 1 ≤ d) : kx_Fn mX5_figure d 0 0 G [.ref m, .int 0, .int (nI b)] N (rH h m o rp rk (nI pl) (nI r)) (some (.int (nI v)), N, rH h m o rp rk (nI (pl + 1)) (nI r)) := by
  refine kx_Fn_of rfl (Nat.le_of_ble_eq_true rfl) rfl ?_ (rH_dom)
  refine ko_aload_n (i := 0) dX5_figure_0 rfl rfl ?_
  refine ko_get fl_X5_57 dX5_figure_1 rH_o rfl ?_
  refine ko_aload_n (i := 0) dX5_figure_4 rfl rfl ?_
  refine ko_get fl_X5_54 dX5_figure_5 rH_o rfl ?_
  refine ko_st (st' := [.int (nI L), .int (nI pl)]) (congrArg (fun z => [Value.int z, .int (nI pl)]) r1) ?_
  refine ko_icmp_eq (tgt := 34) dX5_figure_8 (by decide) (fun c_8 => ?_) (fun c_8 => ?_)
  · exact absurd ((nI_eq (by omega) (by omega)).mp (show nI pl = nI L from c_8)) (by omega)
  · refine ko_aload_n (i := 0) dX5_figure_11 rfl rfl ?_
    refine ko_get fl_X5_7 dX5_figure_12 rH_o rfl ?_
    refine ko_aload_n (i := 0) dX5_figure_15 rfl rfl ?_
    refine ko_get fl_X5_57 dX5_figure_16 rH_o rfl ?_
    refine ko_iald dX5_figure_19 ((rH_q (by omega) (by omega) (by omega)).trans t1) (vp_in_nI (show pl < 48 by omega) (by omega)) ?_
    rw [nI_clamp (by omega)]
    refine ko_bipush (v := 48) dX5_figure_20 (by decide) ?_
    refine ko_isub dX5_figure_22 ?_
    refine ko_i2l dX5_figure_23 ?_
    refine ko_iload_n (i := 1) dX5_figure_24 rfl rfl ?_
    refine ko_i2l dX5_figure_25 ?_
    refine ko_iload_n (i := 2) dX5_figure_26 rfl rfl ?_
    refine ko_i2l dX5_figure_27 ?_
    refine ko_callSr lk_X5_48 dX5_figure_28 (fn_in (d := d - 1) (v := T pl - 48) (a := 0) (b := nI b)) rfl rfl (by omega) (by omega) (by omega) (Nat.le_of_ble_eq_true rfl) ?_
    first | refine ko_ifb_ne (tgt := 37) dX5_figure_31 (by decide) (fun c_31 => ?_) (fun c_31 => ?_) | refine ko_if_ne (tgt := 37) dX5_figure_31 (by decide) (fun c_31 => ?_) (fun c_31 => ?_)
    · refine ko_aload_n (i := 0) dX5_figure_37 rfl rfl ?_
      refine ko_dup dX5_figure_38 rfl ?_
      refine ko_get fl_X5_57 dX5_figure_39 rH_o rfl ?_
      refine ko_iconst (v := 1) dX5_figure_42 (by decide) ?_
      refine ko_iadd dX5_figure_43 ?_
      rw [nI_1]
      refine ko_put fl_X5_57 dX5_figure_44 rH_o rfl rfl (Nat.le_of_ble_eq_true rfl) ?_
      refine ko_h (rH_m _ _) ?_
      refine ko_aload_n (i := 0) dX5_figure_47 rfl rfl ?_
      refine ko_get fl_X5_7 dX5_figure_48 rH_o rfl ?_
      refine ko_aload_n (i := 0) dX5_figure_51 rfl rfl ?_
      refine ko_get fl_X5_57 dX5_figure_52 rH_o rfl ?_
      refine ko_iconst (v := 1) dX5_figure_55 (by decide) ?_
      refine ko_isub dX5_figure_56 ?_
      rw [nI_pred]
      refine ko_iald dX5_figure_57 ((rH_q (by omega) (by omega) (by omega)).trans t1) (vp_in_nI (show pl < 48 by omega) (by omega)) ?_
      rw [nI_clamp (by omega)]
      refine ko_bipush (v := 48) dX5_figure_58 (by decide) ?_
      refine ko_isub dX5_figure_60 ?_
      refine ko_iret dX5_figure_61 rfl (Nat.le_of_ble_eq_true rfl) (Nat.le_of_ble_eq_true rfl) ?_
      rw [ev]
    · exact absurd c_31 (by rw [hi]; decide)
set_option maxRecDepth 20000 in
theorem fg_no {G : kx_G} {d N m L pl r : Nat} {h : kx_H} {o : MO} {T rp rk : Nat → Int32} {b : Nat} (t1 : h (m + 1) = some (ka 48 T)) (r1 : mTs o = nI L) (hL : L ≤ 48) (hpl : pl ≤ L) (hno : L ≤ pl ∨ inI (T pl - 48) 0 (nI b) = false) (hd : 1 ≤ d) : kx_Fn mX5_figure d 0 0 G [.ref m, .int 0, .int (nI b)] N (rH h m o rp rk (nI pl) (nI r)) (some (.int (-9)), N, (rH h m o rp rk (nI pl) (nI r))) := by
  refine kx_Fn_of rfl (Nat.le_of_ble_eq_true rfl) rfl ?_ (kx_self)
  refine ko_aload_n (i := 0) dX5_figure_0 rfl rfl ?_
  refine ko_get fl_X5_57 dX5_figure_1 rH_o rfl ?_
  refine ko_aload_n (i := 0) dX5_figure_4 rfl rfl ?_
  refine ko_get fl_X5_54 dX5_figure_5 rH_o rfl ?_
  refine ko_st (st' := [.int (nI L), .int (nI pl)]) (congrArg (fun z => [Value.int z, .int (nI pl)]) r1) ?_
  refine ko_icmp_eq (tgt := 34) dX5_figure_8 (by decide) (fun c_8 => ?_) (fun c_8 => ?_)
  · refine ko_bipush (v := (-9)) dX5_figure_34 (by decide) ?_
    refine ko_iret dX5_figure_36 rfl (Nat.le_of_ble_eq_true rfl) (Nat.le_of_ble_eq_true rfl) ?_
    rfl
  · have hne : pl < L := by
      rcases Nat.lt_or_ge pl L with q | q
      · exact q
      · exact absurd (show nI pl = nI L by rw [show pl = L by omega]) c_8
    have hi : inI (T pl - 48) 0 (nI b) = false := by
      rcases hno with z | z
      · omega
      · exact z
    refine ko_aload_n (i := 0) dX5_figure_11 rfl rfl ?_
    refine ko_get fl_X5_7 dX5_figure_12 rH_o rfl ?_
    refine ko_aload_n (i := 0) dX5_figure_15 rfl rfl ?_
    refine ko_get fl_X5_57 dX5_figure_16 rH_o rfl ?_
    refine ko_iald dX5_figure_19 ((rH_q (by omega) (by omega) (by omega)).trans t1) (vp_in_nI (show pl < 48 by omega) (by omega)) ?_
    rw [nI_clamp (by omega)]
    refine ko_bipush (v := 48) dX5_figure_20 (by decide) ?_
    refine ko_isub dX5_figure_22 ?_
    refine ko_i2l dX5_figure_23 ?_
    refine ko_iload_n (i := 1) dX5_figure_24 rfl rfl ?_
    refine ko_i2l dX5_figure_25 ?_
    refine ko_iload_n (i := 2) dX5_figure_26 rfl rfl ?_
    refine ko_i2l dX5_figure_27 ?_
    refine ko_callSr lk_X5_48 dX5_figure_28 (fn_in (d := d - 1) (v := T pl - 48) (a := 0) (b := nI b)) rfl rfl (by omega) (by omega) (by omega) (Nat.le_of_ble_eq_true rfl) ?_
    first | refine ko_ifb_ne (tgt := 37) dX5_figure_31 (by decide) (fun c_31 => ?_) (fun c_31 => ?_) | refine ko_if_ne (tgt := 37) dX5_figure_31 (by decide) (fun c_31 => ?_) (fun c_31 => ?_)
    · exact absurd c_31 (by rw [hi]; decide)
    · refine ko_bipush (v := (-9)) dX5_figure_34 (by decide) ?_
      refine ko_iret dX5_figure_36 rfl (Nat.le_of_ble_eq_true rfl) (Nat.le_of_ble_eq_true rfl) ?_
      rfl
def plB (b : Int32) (i q : Nat) : Bool := decide (i < q) && !hbI b (nI q)
theorem pl_0 (b : Int32) (i : Nat) : ∀ j, j ≤ i + 1 → stI (plB b i) j = 0
  | 0, _ => rfl
  | j + 1, h => by
    rw [stI, pl_0 b i j (by omega), show plB b i j = false from by unfold plB; rw [decide_eq_false (by omega)]; rfl, if_neg (by decide)]
    exact or0 0
theorem ls_m0 : ∀ k, k < 32 → ∀ i, i < 5 → nI k &&& (-((2 : Int32) <<< (nI i &&& 31))) = nI (k / 2 ^ (i + 1) * 2 ^ (i + 1)) := by decide +kernel
theorem ls_m1 : ∀ i, i < 5 → ∀ j, j < 5 → hbI (-((2 : Int32) <<< (nI i &&& 31))) (nI j) = decide (i < j) := by decide +kernel
theorem ls_st {v : PU} {n i : Nat} (hw : WF v n) (hi : i < n) : lsI v (nI i) = stI (plB (pKn v i) i) n := by
  have hn5 := hw.2.1
  have h1 : lo (evI (nI n) &&& (pKn v i ^^^ (-1))) := lo_andn (lo_ev hn5) ((lo_W hw).2.2 i (by omega))
  unfold lsI
  rw [if_pos (hasW hw hi), hw.1, nI_clamp (by omega)]
  refine hb_ext ?_ (st_lo _ n hn5) (fun j hj => ?_)
  · obtain ⟨k, hk, e⟩ := h1
    rw [e, ls_m0 k hk i (by omega)]
    exact ⟨_, Nat.lt_of_le_of_lt (Nat.div_mul_le_self k (2 ^ (i + 1))) hk, rfl⟩
  · rw [hb_and _ _ j hj, ls_m1 i (by omega) j hj, hb_and _ _ j hj, hb_not _ j hj, hb_ev n (by omega) j hj, st_bit _ n hn5 j hj]
    unfold plB
    cases decide (j < n) <;> cases hbI (pKn v i) (nI j) <;> cases decide (i < j) <;> rfl
theorem ls_out {v : PU} {n i : Nat} (hw : WF v n) (h1 : n ≤ i) (h2 : i < 5) : lsI v (nI i) = 0 := by
  unfold lsI
  rw [hw.1, has_out hw.2.1 h1 h2, if_neg (by decide)]
def apB9 (v : PU) : Nat → Bool
  | 0 => false
  | i + 1 => apB9 v i || !decide (lsI v (nI i) = 0)
theorem ap_n {v : PU} {n : Nat} (hw : WF v n) : ∀ i, n + i ≤ 5 → apB9 v (n + i) = apB9 v n
  | 0, _ => rfl
  | i + 1, h => by
    show (apB9 v (n + i) || !decide (lsI v (nI (n + i)) = 0)) = _
    rw [ls_out hw (by omega) (by omega), decide_eq_true rfl, ap_n hw i (by omega)]
    simp
theorem ap_ipl {v : PU} {n : Nat} (hw : WF v n) : iplB v = apB9 v n := by
  have h5 := hw.2.1
  have e := ap_n hw (5 - n) (by omega)
  rw [show n + (5 - n) = 5 by omega] at e
  rw [← e]
  show (!decide (lsI v (nI 0) = 0) || (!decide (lsI v (nI 1) = 0) || (!decide (lsI v (nI 2) = 0) || (!decide (lsI v (nI 3) = 0) || (!decide (lsI v (nI 4) = 0) || false))))) = (((((false || !decide (lsI v (nI 0) = 0)) || !decide (lsI v (nI 1) = 0)) || !decide (lsI v (nI 2) = 0)) || !decide (lsI v (nI 3) = 0)) || !decide (lsI v (nI 4) = 0))
  simp [Bool.or_assoc]
set_option maxRecDepth 20000 in
theorem fn_pairsOf {G : kx_G} {d N m pl r : Nat} {h : kx_H} {o : MO} {rp rk : Nat → Int32} {v : PU} {i : Nat} (hd9 : rdR rp rk r v) (hi : i < r) (hd : 1 ≤ d) : kx_Fn mX5_pairsOf d 0 0 G [.ref m, .int (nI i)] N (rH h m o rp rk (nI pl) (nI r)) (some (.int (lsI v (nI i))), N, (rH h m o rp rk (nI pl) (nI r))) := by
  refine kx_Fn_of rfl (Nat.le_of_ble_eq_true rfl) rfl ?_ (kx_self)
  have hr5 := hd9.1.2.1
  have hi9 := hi
  have ek := (hd9.2.2.2.2.2.1 i hi).2.2.2
  have LOOP : ∀ (k j : Nat), k + j = r → i + 1 ≤ j → kx_Ok mX5_pairsOf d 0 0 G 0 0 6 [(0, .ref m), (1, .int (nI i)), (2, .int (stI (plB (rk i) i) j)), (3, .int (nI j))] [] N (rH h m o rp rk (nI pl) (nI r)) (some (.int (lsI v (nI i))), N, (rH h m o rp rk (nI pl) (nI r))) := by
    intro k
    induction k with
    | zero =>
      intro j hi hij
      obtain rfl : r = j := by omega
      refine ko_iload_n (i := 3) dX5_pairsOf_6 rfl rfl ?_
      refine ko_aload_n (i := 0) dX5_pairsOf_7 rfl rfl ?_
      refine ko_get fl_X5_60 dX5_pairsOf_8 rH_o rfl ?_
      refine ko_icmp_ge (tgt := 43) dX5_pairsOf_11 (by decide) (fun c_11 => ?_) (fun c_11 => ?_)
      · refine ko_iload_n (i := 2) dX5_pairsOf_43 rfl rfl ?_
        refine ko_iret dX5_pairsOf_44 rfl (Nat.le_of_ble_eq_true rfl) (Nat.le_of_ble_eq_true rfl) ?_
        rw [ls_st hd9.1 hi9, ← ek]
      · exact absurd (show nI r ≤ nI r by rw [(rfl : nI r = nI r)]; exact nI_le (Nat.le_refl _) (by omega)) c_11
    | succ k ih =>
      intro j hi hij
      refine ko_iload_n (i := 3) dX5_pairsOf_6 rfl rfl ?_
      refine ko_aload_n (i := 0) dX5_pairsOf_7 rfl rfl ?_
      refine ko_get fl_X5_60 dX5_pairsOf_8 rH_o rfl ?_
      refine ko_icmp_ge (tgt := 43) dX5_pairsOf_11 (by decide) (fun c_11 => ?_) (fun c_11 => ?_)
      · exact absurd (show nI r ≤ nI j from by rw [← (rfl : nI r = nI r)]; exact c_11) (nI_ge (by omega) (by omega))
      · refine ko_iload_n (i := 2) dX5_pairsOf_14 rfl rfl ?_
        refine ko_aload_n (i := 0) dX5_pairsOf_15 rfl rfl ?_
        refine ko_get fl_X5_19 dX5_pairsOf_16 rH_o rfl ?_
        refine ko_iload_n (i := 1) dX5_pairsOf_19 rfl rfl ?_
        refine ko_iald dX5_pairsOf_20 rH_k (vp_in_nI (show i < 5 by omega) (by omega)) ?_
        rw [nI_clamp (by omega)]
        refine ko_iload_n (i := 3) dX5_pairsOf_21 rfl rfl ?_
        refine ko_callSr lk_X5_63 dX5_pairsOf_22 (fn_mhas (by omega)) rfl rfl (by omega) (by omega) (by omega) (Nat.le_of_ble_eq_true rfl) ?_
        first | refine ko_ifb_eq (tgt := 32) dX5_pairsOf_25 (by decide) (fun c_25 => ?_) (fun c_25 => ?_) | refine ko_if_eq (tgt := 32) dX5_pairsOf_25 (by decide) (fun c_25 => ?_) (fun c_25 => ?_)
        · refine ko_iconst (v := 1) dX5_pairsOf_32 (by decide) ?_
          refine ko_iload_n (i := 3) dX5_pairsOf_33 rfl rfl ?_
          refine ko_ishl dX5_pairsOf_34 ?_
          refine ko_ior dX5_pairsOf_35 ?_
          refine ko_istore_n (i := 2) (lv' := [(0, _), (1, _), (2, _), (3, _)]) dX5_pairsOf_36 rfl (by decide) rfl rfl rfl ?_
          refine ko_inc1 (i := 3) (lv' := [(0, _), (1, _), (2, _), (3, _)]) dX5_pairsOf_37 rfl (by decide) rfl rfl rfl ?_
          refine ko_goto (tgt := 6) dX5_pairsOf_40 (by decide) ?_
          first
            | exact ko_lv (by rw [stI, show plB (rk i) i j = false from by unfold plB; rw [c_25]; simp, nI_succ]; rfl) (ih (j + 1) (by omega) (by omega))
            | exact ko_lv (by rw [stI, show plB (rk i) i j = true from by unfold plB; rw [c_25, decide_eq_true (show i < j by omega)]; rfl, nI_succ]; rfl) (ih (j + 1) (by omega) (by omega))
        · refine ko_iconst (v := 0) dX5_pairsOf_28 (by decide) ?_
          refine ko_goto (tgt := 35) dX5_pairsOf_29 (by decide) ?_
          refine ko_ior dX5_pairsOf_35 ?_
          refine ko_istore_n (i := 2) (lv' := [(0, _), (1, _), (2, _), (3, _)]) dX5_pairsOf_36 rfl (by decide) rfl rfl rfl ?_
          refine ko_inc1 (i := 3) (lv' := [(0, _), (1, _), (2, _), (3, _)]) dX5_pairsOf_37 rfl (by decide) rfl rfl rfl ?_
          refine ko_goto (tgt := 6) dX5_pairsOf_40 (by decide) ?_
          first
            | exact ko_lv (by rw [stI, show plB (rk i) i j = false from by unfold plB; rw [c_25]; simp, nI_succ]; rfl) (ih (j + 1) (by omega) (by omega))
            | exact ko_lv (by rw [stI, show plB (rk i) i j = true from by unfold plB; rw [c_25, decide_eq_true (show i < j by omega)]; rfl, nI_succ]; rfl) (ih (j + 1) (by omega) (by omega))
  refine ko_iconst (v := 0) dX5_pairsOf_0 (by decide) ?_
  refine ko_istore_n (i := 2) (lv' := [(0, _), (1, _), (2, _)]) dX5_pairsOf_1 rfl (by decide) rfl rfl rfl ?_
  refine ko_iload_n (i := 1) dX5_pairsOf_2 rfl rfl ?_
  refine ko_iconst (v := 1) dX5_pairsOf_3 (by decide) ?_
  refine ko_iadd dX5_pairsOf_4 ?_
  refine ko_istore_n (i := 3) (lv' := [(0, _), (1, _), (2, _), (3, _)]) dX5_pairsOf_5 rfl (by decide) rfl rfl rfl ?_
  refine ko_lv (lv' := [(0, .ref m), (1, .int (nI i)), (2, .int (stI (plB (rk i) i) (i + 1))), (3, .int (nI (i + 1)))]) ?_ (LOOP (r - (i + 1)) (i + 1) (by omega) (by omega))
  rw [pl_0 _ _ _ (Nat.le_refl _), nI_succ]
set_option maxRecDepth 20000 in
theorem fn_arePairs {G : kx_G} {d N m pl r : Nat} {h : kx_H} {o : MO} {rp rk : Nat → Int32} {v : PU} (hd9 : rdR rp rk r v) (hd : 2 ≤ d) : kx_Fn mX5_arePairs d 0 0 G [.ref m] N (rH h m o rp rk (nI pl) (nI r)) (some (.int (kb (iplB v))), N, (rH h m o rp rk (nI pl) (nI r))) := by
  refine kx_Fn_of rfl (Nat.le_of_ble_eq_true rfl) rfl ?_ (kx_self)
  have hr5 := hd9.1.2.1
  have LOOP : ∀ (k i : Nat), k + i = r → kx_Ok mX5_arePairs d 0 0 G 0 0 4 [(0, .ref m), (1, .int (kb (apB9 v i))), (2, .int (nI i))] [] N (rH h m o rp rk (nI pl) (nI r)) (some (.int (kb (iplB v))), N, (rH h m o rp rk (nI pl) (nI r))) := by
    intro k
    induction k with
    | zero =>
      intro i hi
      obtain rfl : r = i := by omega
      refine ko_iload_n (i := 2) dX5_arePairs_4 rfl rfl ?_
      refine ko_aload_n (i := 0) dX5_arePairs_5 rfl rfl ?_
      refine ko_get fl_X5_60 dX5_arePairs_6 rH_o rfl ?_
      refine ko_icmp_ge (tgt := 36) dX5_arePairs_9 (by decide) (fun c_9 => ?_) (fun c_9 => ?_)
      · refine ko_iload_n (i := 1) dX5_arePairs_36 rfl rfl ?_
        refine ko_zret dX5_arePairs_37 rfl (kb_z _) (Nat.le_of_ble_eq_true rfl) (Nat.le_of_ble_eq_true rfl) ?_
        rw [ap_ipl hd9.1]
      · exact absurd (show nI r ≤ nI r by rw [(rfl : nI r = nI r)]; exact nI_le (Nat.le_refl _) (by omega)) c_9
    | succ k ih =>
      intro i hi
      refine ko_iload_n (i := 2) dX5_arePairs_4 rfl rfl ?_
      refine ko_aload_n (i := 0) dX5_arePairs_5 rfl rfl ?_
      refine ko_get fl_X5_60 dX5_arePairs_6 rH_o rfl ?_
      refine ko_icmp_ge (tgt := 36) dX5_arePairs_9 (by decide) (fun c_9 => ?_) (fun c_9 => ?_)
      · exact absurd (show nI r ≤ nI i from by rw [← (rfl : nI r = nI r)]; exact c_9) (nI_ge (by omega) (by omega))
      · refine ko_iload_n (i := 1) dX5_arePairs_12 rfl rfl ?_
        first | refine ko_ifb_ne (tgt := 24) dX5_arePairs_13 (by decide) (fun c_13 => ?_) (fun c_13 => ?_) | refine ko_if_ne (tgt := 24) dX5_arePairs_13 (by decide) (fun c_13 => ?_) (fun c_13 => ?_)
        · refine ko_iconst (v := 1) dX5_arePairs_24 (by decide) ?_
          refine ko_goto (tgt := 29) dX5_arePairs_25 (by decide) ?_
          refine ko_istore_n (i := 1) (lv' := [(0, _), (1, _), (2, _)]) dX5_arePairs_29 rfl (by decide) rfl rfl rfl ?_
          refine ko_inc1 (i := 2) (lv' := [(0, _), (1, _), (2, _)]) dX5_arePairs_30 rfl (by decide) rfl rfl rfl ?_
          refine ko_goto (tgt := 4) dX5_arePairs_33 (by decide) ?_
          exact ko_lv (by simp [apB9, kb, nI_succ, c_9, c_13]) (ih (i + 1) (by omega))
        · refine ko_aload_n (i := 0) dX5_arePairs_16 rfl rfl ?_
          refine ko_iload_n (i := 2) dX5_arePairs_17 rfl rfl ?_
          refine ko_callVr lk_X5_67 dX5_arePairs_18 (fn_pairsOf (d := d - 1) hd9 (show i < r by omega) (by omega)) rfl rfl rH_o rfl rfl (by omega) (by omega) (by omega) (Nat.le_of_ble_eq_true rfl) ?_
          refine ko_if_eq (tgt := 28) dX5_arePairs_21 (by decide) (fun c_21 => ?_) (fun c_21 => ?_)
          · refine ko_iconst (v := 0) dX5_arePairs_28 (by decide) ?_
            refine ko_istore_n (i := 1) (lv' := [(0, _), (1, _), (2, _)]) dX5_arePairs_29 rfl (by decide) rfl rfl rfl ?_
            refine ko_inc1 (i := 2) (lv' := [(0, _), (1, _), (2, _)]) dX5_arePairs_30 rfl (by decide) rfl rfl rfl ?_
            refine ko_goto (tgt := 4) dX5_arePairs_33 (by decide) ?_
            exact ko_lv (by simp [apB9, kb, nI_succ, c_9, c_13, c_21]) (ih (i + 1) (by omega))
          · refine ko_iconst (v := 1) dX5_arePairs_24 (by decide) ?_
            refine ko_goto (tgt := 29) dX5_arePairs_25 (by decide) ?_
            refine ko_istore_n (i := 1) (lv' := [(0, _), (1, _), (2, _)]) dX5_arePairs_29 rfl (by decide) rfl rfl rfl ?_
            refine ko_inc1 (i := 2) (lv' := [(0, _), (1, _), (2, _)]) dX5_arePairs_30 rfl (by decide) rfl rfl rfl ?_
            refine ko_goto (tgt := 4) dX5_arePairs_33 (by decide) ?_
            exact ko_lv (by simp [apB9, kb, nI_succ, c_9, c_13, c_21]) (ih (i + 1) (by omega))
  refine ko_iconst (v := 0) dX5_arePairs_0 (by decide) ?_
  refine ko_istore_n (i := 1) (lv' := [(0, _), (1, _)]) dX5_arePairs_1 rfl (by decide) rfl rfl rfl ?_
  refine ko_iconst (v := 0) dX5_arePairs_2 (by decide) ?_
  refine ko_istore_n (i := 2) (lv' := [(0, _), (1, _), (2, _)]) dX5_arePairs_3 rfl (by decide) rfl rfl rfl ?_
  exact LOOP r 0 (by omega)
