/-! ===== the reference: fault, land ===== -/
theorem kMi_rH {h : kx_H} {m : Nat} {o : MO} {T Kf f tr rp rk bk kp zk va : Nat → Int32} (hM : kMi h m o T Kf f tr rp rk bk kp zk va) (rp' rk' : Nat → Int32) (pl r : Int32) : kMi (rH h m o rp' rk' pl r) m (mTs o, pl, mN o, r, mAc o, mSd o, mSm o, mSo o, mSw o, mRm o, mRf o) T Kf f tr rp' rk' bk kp zk va := kMi_o (kMi_rk (kMi_rp hM rp') rk') (mTs o, pl, mN o, r, mAc o, mSd o, mSm o, mSo o, mSw o, mRm o, mRf o)
theorem kFr_rH {h : kx_H} {m : Nat} {o : MO} {rp' rk' : Nat → Int32} {pl r : Int32} : kFr h (rH h m o rp' rk' pl r) m 10 := ((kFr.up (by omega)).tr (kFr.up (by omega))).tr (kFr.up (by omega))
abbrev lmo (m : Nat) (o : MO) (nn ac : Int32) : va_E := .inr (5, [.int 0, .ref (m + 1), .int (mTs o), .int (mPl o), .int nn, .ref (m + 2), .int (mRp o), .ref (m + 3), .ref (m + 4), .ref (m + 5), .ref (m + 6), .ref (m + 7), .int ac, .ref (m + 8), .ref (m + 9), .long (mSd o), .int (mSm o), .int (mSo o), .int (mSw o), .ref (m + 10), .int (mRm o), .int (mRf o)])
def dH (h : kx_H) (m : Nat) (E : va_E) (F Kd Z : Nat → Int32) : kx_H := kx_up (kx_up (kx_up (kx_up h (m + 9) (kz Z)) (m + 5) (ka 43 F)) (m + 2) (ka 5 Kd)) m E
section DH
variable {h : kx_H} {m : Nat} {E : va_E} {F Kd Z : Nat → Int32}
theorem dH_o : dH h m E F Kd Z m = some E := ku_s
theorem dH_k : dH h m E F Kd Z (m + 2) = some (ka 5 Kd) := (ku_n (by omega)).trans ku_s
theorem dH_f : dH h m E F Kd Z (m + 5) = some (ka 43 F) := (ku_n (by omega)).trans ((ku_n (by omega)).trans ku_s)
theorem dH_z : dH h m E F Kd Z (m + 9) = some (kz Z) := (ku_n (by omega)).trans ((ku_n (by omega)).trans ((ku_n (by omega)).trans ku_s))
theorem dH_q {q : Nat} (h0 : q ≠ m) (h2 : q ≠ m + 2) (h5 : q ≠ m + 5) (h9 : q ≠ m + 9) : dH h m E F Kd Z q = h q := (ku_n h0).trans ((ku_n h2).trans ((ku_n h5).trans (ku_n h9)))
theorem dH_E (E' : va_E) : kx_up (dH h m E F Kd Z) m E' = dH h m E' F Kd Z := ku_ku _ _ _ _
theorem dH_K (g : Nat → Int32) : kx_up (dH h m E F Kd Z) (m + 2) (ka 5 g) = dH h m E F g Z := by
  unfold dH
  rw [ku_two _ _ _ (by omega : m ≠ m + 2), ku_ku]
theorem dH_F (g : Nat → Int32) : kx_up (dH h m E F Kd Z) (m + 5) (ka 43 g) = dH h m E g Kd Z := by
  unfold dH
  rw [ku_two _ _ _ (by omega : m ≠ m + 5), ku_two _ _ _ (by omega : m + 2 ≠ m + 5), ku_ku]
theorem dH_Z (g : Nat → Int32) : kx_up (dH h m E F Kd Z) (m + 9) (kz g) = dH h m E F Kd g := by
  unfold dH
  rw [ku_two _ _ _ (by omega : m ≠ m + 9), ku_two _ _ _ (by omega : m + 2 ≠ m + 9), ku_two _ _ _ (by omega : m + 5 ≠ m + 9), ku_ku]
end DH
theorem dH_self {h : kx_H} {m : Nat} {E : va_E} {F Kd Z : Nat → Int32} (m0 : h m = some E) (m2 : h (m + 2) = some (ka 5 Kd)) (m5 : h (m + 5) = some (ka 43 F)) (m9 : h (m + 9) = some (kz Z)) : dH h m E F Kd Z = h := by
  unfold dH
  rw [ku_same m9, ku_same m5, ku_same m2, ku_same m0]
theorem kMi_dH {h : kx_H} {m : Nat} {o : MO} {T Kf f tr rp rk bk kp zk va : Nat → Int32} (hM : kMi h m o T Kf f tr rp rk bk kp zk va) (nn ac : Int32) (F Kd Z : Nat → Int32) : kMi (dH h m (lmo m o nn ac) F Kd Z) m (mTs o, mPl o, nn, mRp o, ac, mSd o, mSm o, mSo o, mSw o, mRm o, mRf o) T Kd F tr rp rk bk kp Z va := kMi_o (kMi_Kf (kMi_f (kMi_zk hM Z) F) Kd) (mTs o, mPl o, nn, mRp o, ac, mSd o, mSm o, mSo o, mSw o, mRm o, mRf o)
def lF (rp rk F : Nat → Int32) : Nat → (Nat → Int32)
  | 0 => F
  | p + 1 => upd (upd (upd (lF rp rk F p) p (rp (3 * p))) (5 + p) (rp (3 * p + 1))) (10 + p) (rk p)
def lK (rp Kf : Nat → Int32) : Nat → (Nat → Int32)
  | 0 => Kf
  | p + 1 => upd (lK rp Kf p) p (rp (3 * p + 2))
theorem lF_a (rp rk F : Nat → Int32) (j : Nat) (hj : j < 5) : ∀ p, p ≤ 5 → lF rp rk F p j = if j < p then rp (3 * j) else F j
  | 0, _ => rfl
  | p + 1, h => by
    rw [lF, pk_un (by omega), pk_un (by omega)]
    by_cases h1 : j = p
    · subst h1; rw [pk_us, if_pos (by omega)]
    · rw [pk_un h1, lF_a rp rk F j hj p (by omega)]
      by_cases h2 : j < p
      · rw [if_pos h2, if_pos (by omega)]
      · rw [if_neg h2, if_neg (by omega)]
theorem lF_b (rp rk F : Nat → Int32) (j : Nat) (hj : j < 5) : ∀ p, p ≤ 5 → lF rp rk F p (5 + j) = if j < p then rp (3 * j + 1) else F (5 + j)
  | 0, _ => rfl
  | p + 1, h => by
    rw [lF, pk_un (by omega)]
    by_cases h1 : j = p
    · subst h1; rw [pk_us, if_pos (by omega)]
    · rw [pk_un (by omega), pk_un (by omega), lF_b rp rk F j hj p (by omega)]
      by_cases h2 : j < p
      · rw [if_pos h2, if_pos (by omega)]
      · rw [if_neg h2, if_neg (by omega)]
theorem lF_c (rp rk F : Nat → Int32) (j : Nat) (hj : j < 5) : ∀ p, p ≤ 5 → lF rp rk F p (10 + j) = if j < p then rk j else F (10 + j)
  | 0, _ => rfl
  | p + 1, h => by
    rw [lF]
    by_cases h1 : j = p
    · subst h1; rw [pk_us, if_pos (by omega)]
    · rw [pk_un (by omega), pk_un (by omega), pk_un (by omega), lF_c rp rk F j hj p (by omega)]
      by_cases h2 : j < p
      · rw [if_pos h2, if_pos (by omega)]
      · rw [if_neg h2, if_neg (by omega)]
theorem lF_d (rp rk F : Nat → Int32) (k : Nat) (hk : 15 ≤ k) : ∀ p, p ≤ 5 → lF rp rk F p k = F k
  | 0, _ => rfl
  | p + 1, h => by
    rw [lF, pk_un (by omega), pk_un (by omega), pk_un (by omega)]
    exact lF_d rp rk F k hk p (by omega)
theorem lK_v (rp Kf : Nat → Int32) (j : Nat) : ∀ p, j < p → lK rp Kf p j = rp (3 * j + 2)
  | 0, h => absurd h (Nat.not_lt_zero j)
  | p + 1, h => by
    rw [lK]
    by_cases h1 : j = p
    · subst h1; exact pk_us
    · rw [pk_un h1]; exact lK_v rp Kf j p (by omega)
theorem lF_R {rp rk f : Nat → Int32} {r : Nat} {v : PU} (hd9 : rdR rp rk r v) : pgR (lF rp rk (zf 43 f) r) v := by
  obtain ⟨hw, d2, d3, d4, d5, d6, d7⟩ := hd9
  have hr5 := hw.2.1
  have hz : ∀ k, k < 43 → zf 43 f k = 0 := fun k hk => if_pos hk
  refine ⟨fun j hj => ?_, fun j hj => ?_, fun j hj => ?_, ?_, fun j hj => ?_, ?_, ?_⟩
  · rw [lF_a _ _ _ j hj r hr5]
    by_cases h : j < r
    · rw [if_pos h]; exact (d6 j h).1
    · rw [if_neg h, hz j (by omega)]; exact (d7 j (by omega) hj).1.symm
  · rw [lF_b _ _ _ j hj r hr5]
    by_cases h : j < r
    · rw [if_pos h]; exact (d6 j h).2.1
    · rw [if_neg h, hz _ (by omega)]; exact (d7 j (by omega) hj).2.1.symm
  · rw [lF_c _ _ _ j hj r hr5]
    by_cases h : j < r
    · rw [if_pos h]; exact (d6 j h).2.2.2
    · rw [if_neg h, hz _ (by omega)]; exact (d7 j (by omega) hj).2.2.symm
  · rw [lF_d _ _ _ 15 (by omega) r hr5, hz _ (by omega), d2]
  · rw [lF_d _ _ _ (16 + j) (by omega) r hr5, hz _ (by omega), d5 j hj]
  · rw [lF_d _ _ _ 41 (by omega) r hr5, hz _ (by omega), d3]
  · rw [lF_d _ _ _ 42 (by omega) r hr5, hz _ (by omega), d4]
set_option maxRecDepth 20000 in
theorem y_fault {G : kx_G} {d N m : Nat} {h : kx_H} {T : Nat → Int32} {L : Nat} {u : PU} {n C : Nat} {Ac K : Nat → PU} {kf : Nat → Int32} {sd : Int64}   (hM : kM h m T L u n C Ac K kf sd) (hw : WF u n) (hd : 20 ≤ d) : ∃ g, kx_Fn mX5_fault d 0 0 G [.ref m] N h (some (.int (rlR T (nI L)).1), N, g) ∧ kM g m T L u n C Ac K kf sd ∧ kFr h g m 10 := by
  obtain ⟨o, Kf, f, tr, rp, rk, bk, kp, zk, va, hi9, r1, r2, r3, r4, r5, r6, r7, r8, r9, rC, rL⟩ := id hM
  obtain ⟨m0, m1, m2, m3, m4, m5, m6, m7, m8, m9, m10⟩ := id hi9
  have hn5 := hw.2.1
  obtain ⟨p1, p2, p3, p4, p5, p6, p7⟩ := id r6
  obtain ⟨rp9, rk9, pl9, q9, hf, hp9⟩ := fn_mreadLand (G := G) (N := N) (d := d - 1) (L := L) m1 r1 rL m0 m3 m4 (by omega)
  have fr : kFr h (rH h m o rp9 rk9 (nI pl9) (nI q9)) m 10 := kFr_rH
  refine ⟨(rH h m o rp9 rk9 (nI pl9) (nI q9)), kx_Fn_of rfl (Nat.le_of_ble_eq_true rfl) rfl ?_ (kM_dom hM fr), ⟨_, Kf, f, tr, rp9, rk9, bk, kp, zk, va, kMi_rH hi9 rp9 rk9 (nI pl9) (nI q9), r1, r2, r3, r4, r5, r6, r7, r8, r9, rC, rL⟩, fr⟩
  · refine ko_aload_n (i := 0) dX5_fault_0 rfl rfl ?_
    refine ko_iconst (v := 0) dX5_fault_1 (by decide) ?_
    refine ko_put fl_X5_41 dX5_fault_2 m0 rfl rfl (Nat.le_of_ble_eq_true rfl) ?_
    refine ko_h (ku_same m0) ?_
    refine ko_aload_n (i := 0) dX5_fault_5 rfl rfl ?_
    refine ko_callVr lk_X5_86 dX5_fault_6 hf rfl rfl m0 rfl rfl (by omega) (by omega) (by omega) (Nat.le_of_ble_eq_true rfl) ?_
    refine ko_iret dX5_fault_9 rfl (Nat.le_of_ble_eq_true rfl) (Nat.le_of_ble_eq_true rfl) ?_
    rfl
set_option maxRecDepth 20000 in
theorem y_land0 {G : kx_G} {d N m : Nat} {h : kx_H} {T : Nat → Int32} {L : Nat} {u : PU} {n C : Nat} {Ac K : Nat → PU} {kf : Nat → Int32} {sd : Int64} {r : Int32} {v : PU} (hr : rlR T (nI L) = (r, v)) (h9 : ¬ r = -9)  (hM : kM h m T L u n C Ac K kf sd) (hw : WF u n) (hd : 20 ≤ d) : ∃ g, kx_Fn mX5_land d 0 0 G [.ref m] N h (some (.int (-3)), N, g) ∧ kM g m T L u n C Ac K kf sd ∧ kFr h g m 10 := by
  obtain ⟨o, Kf, f, tr, rp, rk, bk, kp, zk, va, hi9, r1, r2, r3, r4, r5, r6, r7, r8, r9, rC, rL⟩ := id hM
  obtain ⟨m0, m1, m2, m3, m4, m5, m6, m7, m8, m9, m10⟩ := id hi9
  have hn5 := hw.2.1
  obtain ⟨p1, p2, p3, p4, p5, p6, p7⟩ := id r6
  obtain ⟨rp9, rk9, pl9, q9, hf, hp9⟩ := fn_mreadLand (G := G) (N := N) (d := d - 1) (L := L) m1 r1 rL m0 m3 m4 (by omega)
  have fr : kFr h (rH h m o rp9 rk9 (nI pl9) (nI q9)) m 10 := kFr_rH
  refine ⟨(rH h m o rp9 rk9 (nI pl9) (nI q9)), kx_Fn_of rfl (Nat.le_of_ble_eq_true rfl) rfl ?_ (kM_dom hM fr), ⟨_, Kf, f, tr, rp9, rk9, bk, kp, zk, va, kMi_rH hi9 rp9 rk9 (nI pl9) (nI q9), r1, r2, r3, r4, r5, r6, r7, r8, r9, rC, rL⟩, fr⟩
  · refine ko_aload_n (i := 0) dX5_land_0 rfl rfl ?_
    refine ko_iconst (v := 0) dX5_land_1 (by decide) ?_
    refine ko_put fl_X5_41 dX5_land_2 m0 rfl rfl (Nat.le_of_ble_eq_true rfl) ?_
    refine ko_h (ku_same m0) ?_
    refine ko_aload_n (i := 0) dX5_land_5 rfl rfl ?_
    refine ko_callVr lk_X5_86 dX5_land_6 hf rfl rfl m0 rfl rfl (by omega) (by omega) (by omega) (Nat.le_of_ble_eq_true rfl) ?_
    rw [hr]
    refine ko_bipush (v := (-9)) dX5_land_9 (by decide) ?_
    refine ko_icmp_eq (tgt := 17) dX5_land_11 (by decide) (fun c_11 => ?_) (fun c_11 => ?_)
    · exact absurd c_11 h9
    · refine ko_bipush (v := (-3)) dX5_land_14 (by decide) ?_
      refine ko_iret dX5_land_16 rfl (Nat.le_of_ble_eq_true rfl) (Nat.le_of_ble_eq_true rfl) ?_
      rfl
set_option maxRecDepth 20000 in
theorem ld_2 {G : kx_G} {d N m r : Nat} {h : kx_H} {o : MO} {T Kf f tr rp rk bk kp zk va : Nat → Int32} {res : kx_R} (hi9 : kMi h m o T Kf f tr rp rk bk kp zk va) (hr : mRp o = nI r) (hr5 : r ≤ 5) (he : res = (some (.int (nI r)), N, (dH h m (lmo m o (nI r) 0) (lF rp rk (zf 43 f) r) (lK rp Kf r) (upd (upd zk 0 0) 1 0)))) : kx_Ok mX5_land d 0 0 G 0 0 17 [(0, .ref m)] [] N h res := by
  obtain ⟨m0, m1, m2, m3, m4, m5, m6, m7, m8, m9, m10⟩ := id hi9
  have LP : ∀ (kp9 p : Nat), kp9 + p = r → kx_Ok mX5_land d 0 0 G 0 0 48 [(0, .ref m), (1, .int (nI p))] [] N (dH h m (lmo m o (nI r) (mAc o)) (lF rp rk (zf 43 f) p) (lK rp Kf p) zk) res := by
    intro kp9
    induction kp9 with
    | zero =>
      intro p hi
      obtain rfl : r = p := by omega
      refine ko_iload_n (i := 1) dX5_land_48 rfl rfl ?_
      refine ko_aload_n (i := 0) dX5_land_49 rfl rfl ?_
      refine ko_get fl_X5_45 dX5_land_50 dH_o rfl ?_
      refine ko_icmp_ge (tgt := 127) dX5_land_53 (by decide) (fun c_53 => ?_) (fun c_53 => ?_)
      · refine ko_aload_n (i := 0) dX5_land_127 rfl rfl ?_
        refine ko_iconst (v := 0) dX5_land_128 (by decide) ?_
        refine ko_put fl_X5_90 dX5_land_129 dH_o rfl rfl (Nat.le_of_ble_eq_true rfl) ?_
        refine ko_h (dH_E _) ?_
        refine ko_aload_n (i := 0) dX5_land_132 rfl rfl ?_
        refine ko_get fl_X5_34 dX5_land_133 dH_o rfl ?_
        refine ko_iconst (v := 0) dX5_land_136 (by decide) ?_
        refine ko_iconst (v := 0) dX5_land_137 (by decide) ?_
        refine ko_zast dX5_land_138 dH_z (vp_in_nI (n := 0) (by omega) (by omega)) ?_
        rw [show (0 : Int32).toNatClampNeg = 0 from rfl, nar0]
        refine ko_h (dH_Z _) ?_
        refine ko_aload_n (i := 0) dX5_land_139 rfl rfl ?_
        refine ko_get fl_X5_34 dX5_land_140 dH_o rfl ?_
        refine ko_iconst (v := 1) dX5_land_143 (by decide) ?_
        refine ko_iconst (v := 0) dX5_land_144 (by decide) ?_
        refine ko_zast dX5_land_145 dH_z (vp_in_nI (n := 1) (by omega) (by omega)) ?_
        rw [show (1 : Int32).toNatClampNeg = 1 from rfl, nar0]
        refine ko_h (dH_Z _) ?_
        refine ko_aload_n (i := 0) dX5_land_146 rfl rfl ?_
        refine ko_get fl_X5_45 dX5_land_147 dH_o rfl ?_
        refine ko_iret dX5_land_150 rfl (Nat.le_of_ble_eq_true rfl) (Nat.le_of_ble_eq_true rfl) ?_
        exact he
      · exact absurd (show nI r ≤ nI r by rw [(rfl : nI r = nI r)]; exact nI_le (Nat.le_refl _) (by omega)) c_53
    | succ kp9 ihp =>
      intro p hi
      refine ko_iload_n (i := 1) dX5_land_48 rfl rfl ?_
      refine ko_aload_n (i := 0) dX5_land_49 rfl rfl ?_
      refine ko_get fl_X5_45 dX5_land_50 dH_o rfl ?_
      refine ko_icmp_ge (tgt := 127) dX5_land_53 (by decide) (fun c_53 => ?_) (fun c_53 => ?_)
      · exact absurd (show nI r ≤ nI p from by rw [← (rfl : nI r = nI r)]; exact c_53) (nI_ge (by omega) (by omega))
      · refine ko_aload_n (i := 0) dX5_land_56 rfl rfl ?_
        refine ko_get fl_X5_22 dX5_land_57 dH_o rfl ?_
        refine ko_iconst (v := 0) dX5_land_60 (by decide) ?_
        refine ko_iload_n (i := 1) dX5_land_61 rfl rfl ?_
        refine ko_iadd dX5_land_62 ?_
        rw [a0]
        refine ko_aload_n (i := 0) dX5_land_63 rfl rfl ?_
        refine ko_get fl_X5_16 dX5_land_64 dH_o rfl ?_
        refine ko_iconst (v := 3) dX5_land_67 (by decide) ?_
        refine ko_iload_n (i := 1) dX5_land_68 rfl rfl ?_
        refine ko_imul dX5_land_69 ?_
        rw [show (3 : Int32) * nI p = nI (3 * p) from pk_mul 3 p]
        refine ko_iald dX5_land_70 ((dH_q (by omega) (by omega) (by omega) (by omega)).trans m3) (vp_in_nI (show 3 * p < 15 by omega) (by omega)) ?_
        rw [nI_clamp (by omega)]
        refine ko_iast dX5_land_71 dH_f (in15 (by omega)) ?_
        rw [nI_clamp (by omega)]
        refine ko_h (dH_F _) ?_
        refine ko_aload_n (i := 0) dX5_land_72 rfl rfl ?_
        refine ko_get fl_X5_22 dX5_land_73 dH_o rfl ?_
        refine ko_iconst (v := 5) dX5_land_76 (by decide) ?_
        refine ko_iload_n (i := 1) dX5_land_77 rfl rfl ?_
        refine ko_iadd dX5_land_78 ?_
        rw [a5]
        refine ko_aload_n (i := 0) dX5_land_79 rfl rfl ?_
        refine ko_get fl_X5_16 dX5_land_80 dH_o rfl ?_
        refine ko_iconst (v := 3) dX5_land_83 (by decide) ?_
        refine ko_iload_n (i := 1) dX5_land_84 rfl rfl ?_
        refine ko_imul dX5_land_85 ?_
        rw [show (3 : Int32) * nI p = nI (3 * p) from pk_mul 3 p]
        refine ko_iconst (v := 1) dX5_land_86 (by decide) ?_
        refine ko_iadd dX5_land_87 ?_
        rw [nI_1]
        refine ko_iald dX5_land_88 ((dH_q (by omega) (by omega) (by omega) (by omega)).trans m3) (vp_in_nI (show 3 * p + 1 < 15 by omega) (by omega)) ?_
        rw [nI_clamp (by omega)]
        refine ko_iast dX5_land_89 dH_f (in15 (by omega)) ?_
        rw [nI_clamp (by omega)]
        refine ko_h (dH_F _) ?_
        refine ko_aload_n (i := 0) dX5_land_90 rfl rfl ?_
        refine ko_get fl_X5_13 dX5_land_91 dH_o rfl ?_
        refine ko_iload_n (i := 1) dX5_land_94 rfl rfl ?_
        refine ko_aload_n (i := 0) dX5_land_95 rfl rfl ?_
        refine ko_get fl_X5_16 dX5_land_96 dH_o rfl ?_
        refine ko_iconst (v := 3) dX5_land_99 (by decide) ?_
        refine ko_iload_n (i := 1) dX5_land_100 rfl rfl ?_
        refine ko_imul dX5_land_101 ?_
        rw [show (3 : Int32) * nI p = nI (3 * p) from pk_mul 3 p]
        refine ko_iconst (v := 2) dX5_land_102 (by decide) ?_
        refine ko_iadd dX5_land_103 ?_
        rw [show nI (3 * p) + 2 = nI (3 * p + 2) from nI_add _ 2]
        refine ko_iald dX5_land_104 ((dH_q (by omega) (by omega) (by omega) (by omega)).trans m3) (vp_in_nI (show 3 * p + 2 < 15 by omega) (by omega)) ?_
        rw [nI_clamp (by omega)]
        refine ko_iast dX5_land_105 dH_k (ix5 (by omega)) ?_
        rw [nI_clamp (by omega)]
        refine ko_h (dH_K _) ?_
        refine ko_aload_n (i := 0) dX5_land_106 rfl rfl ?_
        refine ko_get fl_X5_22 dX5_land_107 dH_o rfl ?_
        refine ko_bipush (v := 10) dX5_land_110 (by decide) ?_
        refine ko_iload_n (i := 1) dX5_land_112 rfl rfl ?_
        refine ko_iadd dX5_land_113 ?_
        rw [a10]
        refine ko_aload_n (i := 0) dX5_land_114 rfl rfl ?_
        refine ko_get fl_X5_19 dX5_land_115 dH_o rfl ?_
        refine ko_iload_n (i := 1) dX5_land_118 rfl rfl ?_
        refine ko_iald dX5_land_119 ((dH_q (by omega) (by omega) (by omega) (by omega)).trans m4) (ix5 (by omega)) ?_
        rw [nI_clamp (by omega)]
        refine ko_iast dX5_land_120 dH_f (in15 (by omega)) ?_
        rw [nI_clamp (by omega)]
        refine ko_h (dH_F _) ?_
        refine ko_inc1 (i := 1) (lv' := [(0, _), (1, _)]) dX5_land_121 rfl (by decide) rfl rfl rfl ?_
        refine ko_goto (tgt := 48) dX5_land_124 (by decide) ?_
        have ei := ihp (p + 1) (by omega)
        rw [lF, lK, nI_succ] at ei
        exact ei
  have LZ : ∀ (kz9 k9 : Nat), kz9 + k9 = 43 → kx_Ok mX5_land d 0 0 G 0 0 27 [(0, .ref m), (1, .int (nI k9))] [] N (dH h m (lmo m o (nI r) (mAc o)) (zf k9 f) Kf zk) res := by
    intro kz9
    induction kz9 with
    | zero =>
      intro k9 hi
      obtain rfl : k9 = 43 := by omega
      refine ko_iload_n (i := 1) dX5_land_27 rfl rfl ?_
      refine ko_bipush (v := 43) dX5_land_28 (by decide) ?_
      refine ko_icmp_ge (tgt := 46) dX5_land_30 (by decide) (fun c_30 => ?_) (fun c_30 => ?_)
      · refine ko_iconst (v := 0) dX5_land_46 (by decide) ?_
        refine ko_istore_n (i := 1) (lv' := [(0, _), (1, _)]) dX5_land_47 rfl (by decide) rfl rfl rfl ?_
        exact LP r 0 (by omega)
      · exact absurd (show (43 : Int32) ≤ nI 43 by decide) c_30
    | succ kz9 ihz =>
      intro k9 hi
      refine ko_iload_n (i := 1) dX5_land_27 rfl rfl ?_
      refine ko_bipush (v := 43) dX5_land_28 (by decide) ?_
      refine ko_icmp_ge (tgt := 46) dX5_land_30 (by decide) (fun c_30 => ?_) (fun c_30 => ?_)
      · exact absurd (show nI 43 ≤ nI k9 from c_30) (nI_ge (by omega) (by omega))
      · refine ko_aload_n (i := 0) dX5_land_33 rfl rfl ?_
        refine ko_get fl_X5_22 dX5_land_34 dH_o rfl ?_
        refine ko_iload_n (i := 1) dX5_land_37 rfl rfl ?_
        refine ko_iconst (v := 0) dX5_land_38 (by decide) ?_
        refine ko_iast dX5_land_39 dH_f (in15 (by omega)) ?_
        rw [nI_clamp (by omega)]
        refine ko_h (dH_F _) ?_
        rw [zf_s]
        refine ko_inc1 (i := 1) (lv' := [(0, _), (1, _)]) dX5_land_40 rfl (by decide) rfl rfl rfl ?_
        refine ko_goto (tgt := 27) dX5_land_43 (by decide) ?_
        exact ko_lv (by rw [nI_succ]) (ihz (k9 + 1) (by omega))
  refine ko_aload_n (i := 0) dX5_land_17 rfl rfl ?_
  refine ko_aload_n (i := 0) dX5_land_18 rfl rfl ?_
  refine ko_get fl_X5_60 dX5_land_19 m0 rfl ?_
  rw [hr]
  refine ko_put fl_X5_45 dX5_land_22 m0 rfl rfl (Nat.le_of_ble_eq_true rfl) ?_
  refine ko_h (h' := (dH h m (lmo m o (nI r) (mAc o)) f Kf zk)) ((congrArg (fun z => kx_up z m (lmo m o (nI r) (mAc o))) (dH_self (E := lmo m o (mN o) (mAc o)) m0 m2 m5 m9).symm).trans (dH_E _)) ?_
  refine ko_iconst (v := 0) dX5_land_25 (by decide) ?_
  refine ko_istore_n (i := 1) (lv' := [(0, _), (1, _)]) dX5_land_26 rfl (by decide) rfl rfl rfl ?_
  exact ko_h (by rw [zf_0]) (LZ 43 0 rfl)
theorem kFr_dH {h g : kx_H} {m : Nat} {E : va_E} {F Kd Z : Nat → Int32} (fr : kFr h g m 10) : kFr h (dH g m E F Kd Z) m 10 := (((fr.tr (kFr.up (by omega))).tr (kFr.up (by omega))).tr (kFr.up (by omega))).tr (kFr.up (by omega))
set_option maxRecDepth 20000 in
theorem y_land1 {G : kx_G} {d N m : Nat} {h : kx_H} {T : Nat → Int32} {L : Nat} {u : PU} {n C : Nat} {Ac K : Nat → PU} {kf : Nat → Int32} {sd : Int64} {v : PU} (hr : rlR T (nI L) = (-9, v))  (hM : kM h m T L u n C Ac K kf sd) (hw : WF u n) (hd : 20 ≤ d) : ∃ g NN, kx_Fn mX5_land d 0 0 G [.ref m] N h (some (.int (pN v)), N, g) ∧ kM g m T L v NN 0 Ac K (fun _ => 0) sd ∧ kFr h g m 10 ∧ WF v NN := by
  obtain ⟨o, Kf, f, tr, rp, rk, bk, kp, zk, va, hi9, r1, r2, r3, r4, r5, r6, r7, r8, r9, rC, rL⟩ := id hM
  obtain ⟨m0, m1, m2, m3, m4, m5, m6, m7, m8, m9, m10⟩ := id hi9
  have hn5 := hw.2.1
  obtain ⟨p1, p2, p3, p4, p5, p6, p7⟩ := id r6
  obtain ⟨rp9, rk9, pl9, q9, hf, hp9⟩ := fn_mreadLand (G := G) (N := N) (d := d - 1) (L := L) m1 r1 rL m0 m3 m4 (by omega)
  rw [hr] at hf hp9
  have hd9 := hp9 rfl
  have hq5 := hd9.1.2.1
  have hi2 := kMi_rH hi9 rp9 rk9 (nI pl9) (nI q9)
  have fr : kFr h (dH (rH h m o rp9 rk9 (nI pl9) (nI q9)) m (lmo m (mTs o, nI pl9, mN o, nI q9, mAc o, mSd o, mSm o, mSo o, mSw o, mRm o, mRf o) (nI q9) 0) (lF rp9 rk9 (zf 43 f) q9) (lK rp9 Kf q9) (upd (upd zk 0 0) 1 0)) m 10 := kFr_dH kFr_rH
  refine ⟨(dH (rH h m o rp9 rk9 (nI pl9) (nI q9)) m (lmo m (mTs o, nI pl9, mN o, nI q9, mAc o, mSd o, mSm o, mSo o, mSw o, mRm o, mRf o) (nI q9) 0) (lF rp9 rk9 (zf 43 f) q9) (lK rp9 Kf q9) (upd (upd zk 0 0) 1 0)), q9, kx_Fn_of rfl (Nat.le_of_ble_eq_true rfl) rfl ?_ (kM_dom hM fr), ⟨_, _, _, tr, rp9, rk9, bk, kp, _, va, kMi_dH hi2 (nI q9) 0 (lF rp9 rk9 (zf 43 f) q9) (lK rp9 Kf q9) (upd (upd zk 0 0) 1 0), r1, rfl, rfl, r4, fun j hj => (lK_v rp9 Kf j q9 hj).trans (hd9.2.2.2.2.2.1 j hj).2.2.1, lF_R hd9, fun i hi => absurd hi (Nat.not_lt_zero i), r8, fun i hi => (by
    have h2 : i = 0 ∨ i = 1 := by omega
    rcases h2 with rfl | rfl
    · rw [pk_un (by omega), pk_us]
    · rw [pk_us]), by omega, rL⟩, fr, hd9.1⟩
  · refine ko_aload_n (i := 0) dX5_land_0 rfl rfl ?_
    refine ko_iconst (v := 0) dX5_land_1 (by decide) ?_
    refine ko_put fl_X5_41 dX5_land_2 m0 rfl rfl (Nat.le_of_ble_eq_true rfl) ?_
    refine ko_h (ku_same m0) ?_
    refine ko_aload_n (i := 0) dX5_land_5 rfl rfl ?_
    refine ko_callVr lk_X5_86 dX5_land_6 hf rfl rfl m0 rfl rfl (by omega) (by omega) (by omega) (Nat.le_of_ble_eq_true rfl) ?_
    refine ko_bipush (v := (-9)) dX5_land_9 (by decide) ?_
    refine ko_icmp_eq (tgt := 17) dX5_land_11 (by decide) (fun c_11 => ?_) (fun c_11 => ?_)
    · refine ld_2 hi2 rfl hq5 ?_
      rw [hd9.1.1]
    · exact absurd rfl c_11
