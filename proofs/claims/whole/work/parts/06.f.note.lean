/-! ===== the reference's acts ===== -/
theorem pgR_cong {f g : Nat → Int32} {u : PU} (e : ∀ k, k < 43 → g k = f k) (h : pgR f u) : pgR g u := by
  obtain ⟨p1, p2, p3, p4, p5, p6, p7⟩ := h
  exact ⟨fun j hj => (e _ (by omega)).trans (p1 j hj), fun j hj => (e _ (by omega)).trans (p2 j hj), fun j hj => (e _ (by omega)).trans (p3 j hj), (e _ (by omega)).trans p4, fun j hj => (e _ (by omega)).trans (p5 j hj), (e _ (by omega)).trans p6, (e _ (by omega)).trans p7⟩
def shF (b : Nat → Int32) (i : Nat) : Nat → Int32 := fun k => if k < i then b (k + 43) else b k
theorem shF_0 (b : Nat → Int32) : shF b 0 = b := by
  funext k
  unfold shF
  rw [if_neg (Nat.not_lt_zero k)]
theorem shF_r (b : Nat → Int32) (i : Nat) : shF b i (i + 43) = b (i + 43) := by
  unfold shF
  rw [if_neg (by omega)]
theorem shF_s (b : Nat → Int32) (i : Nat) : upd (shF b i) i (b (i + 43)) = shF b (i + 1) := by
  funext k
  unfold upd shF
  by_cases h1 : k = i
  · rw [if_pos h1, if_pos (by omega), h1]
  · rw [if_neg h1]
    by_cases h2 : k < i
    · rw [if_pos h2, if_pos (by omega)]
    · rw [if_neg h2, if_neg (by omega)]
def cpB (b f : Nat → Int32) (s i : Nat) : Nat → Int32 := fun k => if s ≤ k ∧ k < s + i then f (k - s) else b k
theorem cpB_0 (b f : Nat → Int32) (s : Nat) : cpB b f s 0 = b := by
  funext k
  unfold cpB
  rw [if_neg (by omega)]
theorem cpB_s (b f : Nat → Int32) (s i : Nat) : upd (cpB b f s i) (s + i) (f i) = cpB b f s (i + 1) := by
  funext k
  unfold upd cpB
  by_cases h1 : k = s + i
  · rw [if_pos h1, if_pos (by omega), h1]
    congr 1
    omega
  · rw [if_neg h1]
    by_cases h2 : s ≤ k ∧ k < s + i
    · rw [if_pos h2, if_pos (by omega)]
    · rw [if_neg h2, if_neg (by omega)]
theorem cpB_in {b f : Nat → Int32} {s i k : Nat} (hk : k < i) : cpB b f s i (s + k) = f k := by
  unfold cpB
  rw [if_pos (by omega)]
  congr 1
  omega
theorem cpB_out {b f : Nat → Int32} {s i k : Nat} (hk : k < s ∨ s + i ≤ k) : cpB b f s i k = b k := by
  unfold cpB
  rw [if_neg (by omega)]
theorem in602 {i : Nat} (h : i < 602) : vp_in (nI i) 602 := vp_in_nI h (by omega)
set_option maxRecDepth 20000 in
theorem fn_noteC {G : kx_G} {d N m c : Nat} {h : kx_H} {o : MO} {f b : Nat → Int32} (o0 : h m = some (kmo m o)) (t5 : h (m + 5) = some (ka 43 f)) (t7 : h (m + 7) = some (ka 602 b)) (hac : mAc o = nI c) (hc : c < 14) : kx_Fn mX5_note d 0 0 G [.ref m] N h (none, N, (kx_up (kx_up h (m + 7) (ka 602 (cpB b f (43 * c) 43))) m (kmo m (mTs o, mPl o, mN o, mRp o, (nI (c + 1)), mSd o, mSm o, mSo o, mSw o, mRm o, mRf o)))) := by
  refine kx_Fn_of rfl (Nat.le_of_ble_eq_true rfl) rfl ?_ (fun q x hx => by
    have hx : (kx_up (kx_up h (m + 7) (ka 602 (cpB b f (43 * c) 43))) m (kmo m (mTs o, mPl o, mN o, mRp o, (nI (c + 1)), mSd o, mSm o, mSo o, mSw o, mRm o, mRf o))) q = some x := hx
    by_cases h1 : q = m
    · subst h1; exact kx_self _ _ o0
    · rw [ku_n h1] at hx
      exact ku_dom t7 q x hx)
  have LOO2 : ∀ (k i : Nat), k + i = 43 → kx_Ok mX5_note d 0 0 G 0 0 51 [(0, .ref m), (1, .int (nI i))] [] N (kx_up (kx_up h (m + 7) (ka 602 (cpB b f (43 * c) i))) m (kmo m (mTs o, mPl o, mN o, mRp o, (nI c), mSd o, mSm o, mSo o, mSw o, mRm o, mRf o))) (none, N, (kx_up (kx_up h (m + 7) (ka 602 (cpB b f (43 * c) 43))) m (kmo m (mTs o, mPl o, mN o, mRp o, (nI (c + 1)), mSd o, mSm o, mSo o, mSw o, mRm o, mRf o)))) := by
    intro k
    induction k with
    | zero =>
      intro i hi
      obtain rfl : i = 43 := by omega
      refine ko_iload_n (i := 1) dX5_note_51 rfl rfl ?_
      refine ko_bipush (v := 43) dX5_note_52 (by decide) ?_
      refine ko_icmp_ge (tgt := 83) dX5_note_54 (by decide) (fun c_54 => ?_) (fun c_54 => ?_)
      · refine ko_aload_n (i := 0) dX5_note_83 rfl rfl ?_
        refine ko_dup dX5_note_84 rfl ?_
        refine ko_get fl_X5_90 dX5_note_85 ku_s rfl ?_
        refine ko_iconst (v := 1) dX5_note_88 (by decide) ?_
        refine ko_iadd dX5_note_89 ?_
        rw [nI_1]
        refine ko_put fl_X5_90 dX5_note_90 ku_s rfl rfl (Nat.le_of_ble_eq_true rfl) ?_
        refine ko_h (ku_ku _ _ _ _) ?_
        refine ko_vret dX5_note_93 rfl (Nat.le_of_ble_eq_true rfl) (Nat.le_of_ble_eq_true rfl) ?_
        rfl
      · exact absurd (show (43 : Int32) ≤ nI 43 by decide) c_54
    | succ k ih =>
      intro i hi
      refine ko_iload_n (i := 1) dX5_note_51 rfl rfl ?_
      refine ko_bipush (v := 43) dX5_note_52 (by decide) ?_
      refine ko_icmp_ge (tgt := 83) dX5_note_54 (by decide) (fun c_54 => ?_) (fun c_54 => ?_)
      · exact absurd (show nI 43 ≤ nI i from c_54) (nI_ge (by omega) (by omega))
      · refine ko_aload_n (i := 0) dX5_note_57 rfl rfl ?_
        refine ko_get fl_X5_28 dX5_note_58 ku_s rfl ?_
        refine ko_bipush (v := 43) dX5_note_61 (by decide) ?_
        refine ko_aload_n (i := 0) dX5_note_63 rfl rfl ?_
        refine ko_get fl_X5_90 dX5_note_64 ku_s rfl ?_
        refine ko_imul dX5_note_67 ?_
        rw [show (43 : Int32) * nI c = nI (43 * c) from pk_mul 43 c]
        refine ko_iload_n (i := 1) dX5_note_68 rfl rfl ?_
        refine ko_iadd dX5_note_69 ?_
        rw [nI_add]
        refine ko_aload_n (i := 0) dX5_note_70 rfl rfl ?_
        refine ko_get fl_X5_22 dX5_note_71 ku_s rfl ?_
        refine ko_iload_n (i := 1) dX5_note_74 rfl rfl ?_
        refine ko_iald dX5_note_75 ((ku_n (by omega)).trans ((ku_n (by omega)).trans t5)) (in15 (by omega)) ?_
        rw [nI_clamp (by omega)]
        refine ko_iast dX5_note_76 (by rw [ku_n (by omega)]; exact ku_s) (in602 (by omega)) ?_
        rw [nI_clamp (by omega), cpB_s]
        refine ko_h ((ku_two _ _ _ (by omega)).trans (by rw [ku_ku])) ?_
        refine ko_inc1 (i := 1) (lv' := [(0, _), (1, _)]) dX5_note_77 rfl (by decide) rfl rfl rfl ?_
        refine ko_goto (tgt := 51) dX5_note_80 (by decide) ?_
        exact ko_lv (by simp [nI_succ]) (ih (i + 1) (by omega))
  refine ko_aload_n (i := 0) dX5_note_0 rfl rfl ?_
  refine ko_get fl_X5_90 dX5_note_1 o0 rfl ?_
  refine ko_bipush (v := 14) dX5_note_4 (by decide) ?_
  refine ko_icmp_ne (tgt := 49) dX5_note_6 (by decide) (fun c_6 => ?_) (fun c_6 => ?_)
  · refine ko_iconst (v := 0) dX5_note_49 (by decide) ?_
    refine ko_istore_n (i := 1) (lv' := [(0, _), (1, _)]) dX5_note_50 rfl (by decide) rfl rfl rfl ?_
    refine ko_h (h' := kx_up (kx_up h (m + 7) (ka 602 (cpB b f (43 * c) 0))) m (kmo m (mTs o, mPl o, mN o, mRp o, (nI c), mSd o, mSm o, mSo o, mSw o, mRm o, mRf o))) ?_ ?_
    · rw [cpB_0, ku_same t7, ← hac]
      exact (ku_same o0).symm
    · exact LOO2 43 0 rfl
  · exact absurd c_6 (by rw [hac]; exact fun z => absurd ((nI_eq (a := c) (b := 14) (by omega) (by omega)).mp z) (by omega))
set_option maxRecDepth 20000 in
theorem fn_note14 {G : kx_G} {d N m : Nat} {h : kx_H} {o : MO} {f b : Nat → Int32} (o0 : h m = some (kmo m o)) (t5 : h (m + 5) = some (ka 43 f)) (t7 : h (m + 7) = some (ka 602 b)) (hac : mAc o = nI 14) : kx_Fn mX5_note d 0 0 G [.ref m] N h (none, N, (kx_up (kx_up h (m + 7) (ka 602 (cpB (shF b 559) f (43 * 13) 43))) m (kmo m (mTs o, mPl o, mN o, mRp o, (nI (13 + 1)), mSd o, mSm o, mSo o, mSw o, mRm o, mRf o)))) := by
  refine kx_Fn_of rfl (Nat.le_of_ble_eq_true rfl) rfl ?_ (fun q x hx => by
    have hx : (kx_up (kx_up h (m + 7) (ka 602 (cpB (shF b 559) f (43 * 13) 43))) m (kmo m (mTs o, mPl o, mN o, mRp o, (nI (13 + 1)), mSd o, mSm o, mSo o, mSw o, mRm o, mRf o))) q = some x := hx
    by_cases h1 : q = m
    · subst h1; exact kx_self _ _ o0
    · rw [ku_n h1] at hx
      exact ku_dom t7 q x hx)
  have LOO2 : ∀ (k i : Nat), k + i = 43 → kx_Ok mX5_note d 0 0 G 0 0 51 [(0, .ref m), (1, .int (nI i))] [] N (kx_up (kx_up h (m + 7) (ka 602 (cpB (shF b 559) f (43 * 13) i))) m (kmo m (mTs o, mPl o, mN o, mRp o, (nI 13), mSd o, mSm o, mSo o, mSw o, mRm o, mRf o))) (none, N, (kx_up (kx_up h (m + 7) (ka 602 (cpB (shF b 559) f (43 * 13) 43))) m (kmo m (mTs o, mPl o, mN o, mRp o, (nI (13 + 1)), mSd o, mSm o, mSo o, mSw o, mRm o, mRf o)))) := by
    intro k
    induction k with
    | zero =>
      intro i hi
      obtain rfl : i = 43 := by omega
      refine ko_iload_n (i := 1) dX5_note_51 rfl rfl ?_
      refine ko_bipush (v := 43) dX5_note_52 (by decide) ?_
      refine ko_icmp_ge (tgt := 83) dX5_note_54 (by decide) (fun c_54 => ?_) (fun c_54 => ?_)
      · refine ko_aload_n (i := 0) dX5_note_83 rfl rfl ?_
        refine ko_dup dX5_note_84 rfl ?_
        refine ko_get fl_X5_90 dX5_note_85 ku_s rfl ?_
        refine ko_iconst (v := 1) dX5_note_88 (by decide) ?_
        refine ko_iadd dX5_note_89 ?_
        rw [nI_1]
        refine ko_put fl_X5_90 dX5_note_90 ku_s rfl rfl (Nat.le_of_ble_eq_true rfl) ?_
        refine ko_h (ku_ku _ _ _ _) ?_
        refine ko_vret dX5_note_93 rfl (Nat.le_of_ble_eq_true rfl) (Nat.le_of_ble_eq_true rfl) ?_
        rfl
      · exact absurd (show (43 : Int32) ≤ nI 43 by decide) c_54
    | succ k ih =>
      intro i hi
      refine ko_iload_n (i := 1) dX5_note_51 rfl rfl ?_
      refine ko_bipush (v := 43) dX5_note_52 (by decide) ?_
      refine ko_icmp_ge (tgt := 83) dX5_note_54 (by decide) (fun c_54 => ?_) (fun c_54 => ?_)
      · exact absurd (show nI 43 ≤ nI i from c_54) (nI_ge (by omega) (by omega))
      · refine ko_aload_n (i := 0) dX5_note_57 rfl rfl ?_
        refine ko_get fl_X5_28 dX5_note_58 ku_s rfl ?_
        refine ko_bipush (v := 43) dX5_note_61 (by decide) ?_
        refine ko_aload_n (i := 0) dX5_note_63 rfl rfl ?_
        refine ko_get fl_X5_90 dX5_note_64 ku_s rfl ?_
        refine ko_imul dX5_note_67 ?_
        rw [show (43 : Int32) * nI 13 = nI (43 * 13) from pk_mul 43 13]
        refine ko_iload_n (i := 1) dX5_note_68 rfl rfl ?_
        refine ko_iadd dX5_note_69 ?_
        rw [nI_add]
        refine ko_aload_n (i := 0) dX5_note_70 rfl rfl ?_
        refine ko_get fl_X5_22 dX5_note_71 ku_s rfl ?_
        refine ko_iload_n (i := 1) dX5_note_74 rfl rfl ?_
        refine ko_iald dX5_note_75 ((ku_n (by omega)).trans ((ku_n (by omega)).trans t5)) (in15 (by omega)) ?_
        rw [nI_clamp (by omega)]
        refine ko_iast dX5_note_76 (by rw [ku_n (by omega)]; exact ku_s) (in602 (by omega)) ?_
        rw [nI_clamp (by omega), cpB_s]
        refine ko_h ((ku_two _ _ _ (by omega)).trans (by rw [ku_ku])) ?_
        refine ko_inc1 (i := 1) (lv' := [(0, _), (1, _)]) dX5_note_77 rfl (by decide) rfl rfl rfl ?_
        refine ko_goto (tgt := 51) dX5_note_80 (by decide) ?_
        exact ko_lv (by simp [nI_succ]) (ih (i + 1) (by omega))
  have LOO1 : ∀ (k i : Nat), k + i = 559 → kx_Ok mX5_note d 0 0 G 0 0 11 [(0, .ref m), (1, .int (nI i))] [] N (kx_up h (m + 7) (ka 602 (shF b i))) (none, N, (kx_up (kx_up h (m + 7) (ka 602 (cpB (shF b 559) f (43 * 13) 43))) m (kmo m (mTs o, mPl o, mN o, mRp o, (nI (13 + 1)), mSd o, mSm o, mSo o, mSw o, mRm o, mRf o)))) := by
    intro k
    induction k with
    | zero =>
      intro i hi
      obtain rfl : i = 559 := by omega
      refine ko_iload_n (i := 1) dX5_note_11 rfl rfl ?_
      refine ko_sipush (v := 559) dX5_note_12 (by decide) ?_
      refine ko_icmp_ge (tgt := 39) dX5_note_15 (by decide) (fun c_15 => ?_) (fun c_15 => ?_)
      · refine ko_aload_n (i := 0) dX5_note_39 rfl rfl ?_
        refine ko_dup dX5_note_40 rfl ?_
        refine ko_get fl_X5_90 dX5_note_41 ((ku_n (by omega)).trans o0) rfl ?_
        refine ko_iconst (v := 1) dX5_note_44 (by decide) ?_
        refine ko_isub dX5_note_45 ?_
        rw [hac, show nI 14 - 1 = nI 13 from rfl]
        refine ko_put fl_X5_90 dX5_note_46 ((ku_n (by omega)).trans o0) rfl rfl (Nat.le_of_ble_eq_true rfl) ?_
        refine ko_iconst (v := 0) dX5_note_49 (by decide) ?_
        refine ko_istore_n (i := 1) (lv' := [(0, _), (1, _)]) dX5_note_50 rfl (by decide) rfl rfl rfl ?_
        refine ko_h (congrArg (fun z => kx_up (kx_up h (m + 7) (ka 602 z)) m (kmo m (mTs o, mPl o, mN o, mRp o, (nI 13), mSd o, mSm o, mSo o, mSw o, mRm o, mRf o))) (cpB_0 (shF b 559) f (43 * 13)).symm) ?_
        exact LOO2 43 0 rfl
      · exact absurd (show (559 : Int32) ≤ nI 559 by decide) c_15
    | succ k ih =>
      intro i hi
      refine ko_iload_n (i := 1) dX5_note_11 rfl rfl ?_
      refine ko_sipush (v := 559) dX5_note_12 (by decide) ?_
      refine ko_icmp_ge (tgt := 39) dX5_note_15 (by decide) (fun c_15 => ?_) (fun c_15 => ?_)
      · exact absurd (show nI 559 ≤ nI i from c_15) (nI_ge (by omega) (by omega))
      · refine ko_aload_n (i := 0) dX5_note_18 rfl rfl ?_
        refine ko_get fl_X5_28 dX5_note_19 ((ku_n (by omega)).trans o0) rfl ?_
        refine ko_iload_n (i := 1) dX5_note_22 rfl rfl ?_
        refine ko_aload_n (i := 0) dX5_note_23 rfl rfl ?_
        refine ko_get fl_X5_28 dX5_note_24 ((ku_n (by omega)).trans o0) rfl ?_
        refine ko_iload_n (i := 1) dX5_note_27 rfl rfl ?_
        refine ko_bipush (v := 43) dX5_note_28 (by decide) ?_
        refine ko_iadd dX5_note_30 ?_
        rw [show nI i + 43 = nI (i + 43) from nI_add i 43]
        refine ko_iald dX5_note_31 ku_s (in602 (by omega)) ?_
        rw [nI_clamp (by omega), shF_r]
        refine ko_iast dX5_note_32 ku_s (in602 (by omega)) ?_
        rw [nI_clamp (by omega), shF_s]
        refine ko_h (ku_ku _ _ _ _) ?_
        refine ko_inc1 (i := 1) (lv' := [(0, _), (1, _)]) dX5_note_33 rfl (by decide) rfl rfl rfl ?_
        refine ko_goto (tgt := 11) dX5_note_36 (by decide) ?_
        exact ko_lv (by simp [nI_succ]) (ih (i + 1) (by omega))
  refine ko_aload_n (i := 0) dX5_note_0 rfl rfl ?_
  refine ko_get fl_X5_90 dX5_note_1 o0 rfl ?_
  refine ko_bipush (v := 14) dX5_note_4 (by decide) ?_
  refine ko_icmp_ne (tgt := 49) dX5_note_6 (by decide) (fun c_6 => ?_) (fun c_6 => ?_)
  · exact absurd hac c_6
  · refine ko_iconst (v := 0) dX5_note_9 (by decide) ?_
    refine ko_istore_n (i := 1) (lv' := [(0, _), (1, _)]) dX5_note_10 rfl (by decide) rfl rfl rfl ?_
    exact ko_h (by rw [shF_0]; exact (ku_same t7).symm) (LOO1 559 0 rfl)
theorem sys_note {G : kx_G} {d N m : Nat} {h : kx_H} {T : Nat → Int32} {L : Nat} {u : PU} {n C : Nat} {Ac K : Nat → PU} {kf : Nat → Int32} {sd : Int64} (hM : kM h m T L u n C Ac K kf sd) : ∃ g, kx_Fn mX5_note d 0 0 G [.ref m] N h (none, N, g) ∧ kM g m T L u n (rmC C) (rmA C Ac u) K kf sd ∧ kFr h g m 10 := by
  obtain ⟨o, Kf, f, tr, rp, rk, bk, kp, zk, va, hi9, r1, r2, r3, r4, r5, r6, r7, r8, r9, rC, rL⟩ := id hM
  obtain ⟨m0, m1, m2, m3, m4, m5, m6, m7, m8, m9, m10⟩ := id hi9
  by_cases h14 : C = 14
  · subst h14
    rw [show rmC 14 = 14 from if_pos rfl]
    refine ⟨_, fn_note14 m0 m5 m7 r3, ⟨_, Kf, f, tr, rp, rk, _, kp, zk, va, kMi_o (kMi_bk hi9 _) _, r1, r2, rfl, r4, r5, r6, fun i hi => ?_, r8, r9, rC, rL⟩, (kFr.up (by omega)).tr (kFr.up (by omega))⟩
    show pgR _ ((if 14 = 14 then (fun i => if i = 13 then u else Ac (i + 1)) else (fun i => if i = 14 then u else Ac i)) i)
    rw [if_pos (rfl : 14 = 14)]
    show pgR _ (if i = 13 then u else Ac (i + 1))
    by_cases h1 : i = 13
    · rw [if_pos h1, h1]
      exact pgR_cong (fun k hk => cpB_in hk) r6
    · rw [if_neg h1]
      refine pgR_cong (fun k hk => ?_) (r7 (i + 1) (by omega))
      rw [cpB_out (by omega)]
      unfold shF
      rw [if_pos (by omega)]
      congr 1
      omega
  · rw [show rmC C = C + 1 from if_neg h14]
    refine ⟨_, fn_noteC m0 m5 m7 r3 (by omega), ⟨_, Kf, f, tr, rp, rk, _, kp, zk, va, kMi_o (kMi_bk hi9 _) _, r1, r2, rfl, r4, r5, r6, fun i hi => ?_, r8, r9, by omega, rL⟩, (kFr.up (by omega)).tr (kFr.up (by omega))⟩
    show pgR _ ((if C = 14 then (fun i => if i = 13 then u else Ac (i + 1)) else (fun i => if i = C then u else Ac i)) i)
    rw [if_neg h14]
    show pgR _ (if i = C then u else Ac i)
    by_cases h1 : i = C
    · rw [if_pos h1, h1]
      exact pgR_cong (fun k hk => cpB_in hk) r6
    · rw [if_neg h1]
      refine pgR_cong (fun k hk => ?_) (r7 i (by omega))
      rw [cpB_out (by omega)]
