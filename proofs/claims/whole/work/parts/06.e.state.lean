/-! ===== the reference's whole state ===== -/
def kMi (h : kx_H) (m : Nat) (o : MO) (T Kf f tr rp rk bk kp zk va : Nat → Int32) : Prop :=
  h m = some (kmo m o) ∧ h (m + 1) = some (ka 48 T) ∧ h (m + 2) = some (ka 5 Kf) ∧ h (m + 3) = some (ka 15 rp) ∧ h (m + 4) = some (ka 5 rk) ∧ h (m + 5) = some (ka 43 f) ∧ h (m + 6) = some (ka 43 tr) ∧ h (m + 7) = some (ka 602 bk) ∧ h (m + 8) = some (ka 86 kp) ∧ h (m + 9) = some (kz zk) ∧ h (m + 10) = some (ka 32 va)
def kMr (L : Nat) (u : PU) (n C : Nat) (Ac K : Nat → PU) (kf : Nat → Int32) (sd : Int64) (o : MO) (Kf f bk kp zk : Nat → Int32) : Prop :=
  mTs o = nI L ∧ mN o = nI n ∧ mAc o = nI C ∧ mSd o = sd ∧ (∀ j, j < n → Kf j = pKd u j) ∧ pgR f u ∧ (∀ i, i < C → pgR (fun k => bk (43 * i + k)) (Ac i)) ∧ (∀ i, i < 2 → pgR (fun k => kp (43 * i + k)) (K i)) ∧ (∀ i, i < 2 → zk i = kf i) ∧ C ≤ 14 ∧ L ≤ 48
def kM (h : kx_H) (m : Nat) (T : Nat → Int32) (L : Nat) (u : PU) (n C : Nat) (Ac K : Nat → PU) (kf : Nat → Int32) (sd : Int64) : Prop :=
  ∃ (o : MO) (Kf f tr rp rk bk kp zk va : Nat → Int32), kMi h m o T Kf f tr rp rk bk kp zk va ∧ kMr L u n C Ac K kf sd o Kf f bk kp zk
theorem kM_dom {h g : kx_H} {m N : Nat} {T : Nat → Int32} {L : Nat} {u : PU} {n C : Nat} {Ac K : Nat → PU} {kf : Nat → Int32} {sd : Int64} (hM : kM h m T L u n C Ac K kf sd) (fr : kFr h g m 10) : ∀ q e, g q = some e → kx_dom h N q := by
  obtain ⟨o, Kf, f, tr, rp, rk, bk, kp, zk, va, ⟨m0, m1, m2, m3, m4, m5, m6, m7, m8, m9, m10⟩, -⟩ := hM
  intro q e he
  by_cases hq : m ≤ q ∧ q ≤ m + 10
  · have : q = m ∨ q = m + 1 ∨ q = m + 2 ∨ q = m + 3 ∨ q = m + 4 ∨ q = m + 5 ∨ q = m + 6 ∨ q = m + 7 ∨ q = m + 8 ∨ q = m + 9 ∨ q = m + 10 := by omega
    rcases this with rfl | rfl | rfl | rfl | rfl | rfl | rfl | rfl | rfl | rfl | rfl
    · exact kx_self _ _ m0
    · exact kx_self _ _ m1
    · exact kx_self _ _ m2
    · exact kx_self _ _ m3
    · exact kx_self _ _ m4
    · exact kx_self _ _ m5
    · exact kx_self _ _ m6
    · exact kx_self _ _ m7
    · exact kx_self _ _ m8
    · exact kx_self _ _ m9
    · exact kx_self _ _ m10
  · rw [fr q (by omega)] at he
    exact kx_self _ _ he
theorem kM_frame {h g : kx_H} {m : Nat} {T : Nat → Int32} {L : Nat} {u : PU} {n C : Nat} {Ac K : Nat → PU} {kf : Nat → Int32} {sd : Int64} (hM : kM h m T L u n C Ac K kf sd) (e : ∀ q, m ≤ q → q ≤ m + 10 → g q = h q) : kM g m T L u n C Ac K kf sd := by
  obtain ⟨o, Kf, f, tr, rp, rk, bk, kp, zk, va, ⟨m0, m1, m2, m3, m4, m5, m6, m7, m8, m9, m10⟩, r⟩ := hM
  exact ⟨o, Kf, f, tr, rp, rk, bk, kp, zk, va, ⟨by rw [e _ (by omega) (by omega)]; exact m0, by rw [e _ (by omega) (by omega)]; exact m1, by rw [e _ (by omega) (by omega)]; exact m2, by rw [e _ (by omega) (by omega)]; exact m3, by rw [e _ (by omega) (by omega)]; exact m4, by rw [e _ (by omega) (by omega)]; exact m5, by rw [e _ (by omega) (by omega)]; exact m6, by rw [e _ (by omega) (by omega)]; exact m7, by rw [e _ (by omega) (by omega)]; exact m8, by rw [e _ (by omega) (by omega)]; exact m9, by rw [e _ (by omega) (by omega)]; exact m10⟩, r⟩
section KMi
variable {h : kx_H} {m : Nat} {o : MO} {T Kf f tr rp rk bk kp zk va : Nat → Int32}
theorem kMi_o (hM : kMi h m o T Kf f tr rp rk bk kp zk va) (o' : MO) : kMi (kx_up h m (kmo m o')) m o' T Kf f tr rp rk bk kp zk va := by
  obtain ⟨m0, m1, m2, m3, m4, m5, m6, m7, m8, m9, m10⟩ := hM
  exact ⟨ku_s, by rw [ku_n (by omega)]; exact m1, by rw [ku_n (by omega)]; exact m2, by rw [ku_n (by omega)]; exact m3, by rw [ku_n (by omega)]; exact m4, by rw [ku_n (by omega)]; exact m5, by rw [ku_n (by omega)]; exact m6, by rw [ku_n (by omega)]; exact m7, by rw [ku_n (by omega)]; exact m8, by rw [ku_n (by omega)]; exact m9, by rw [ku_n (by omega)]; exact m10⟩
theorem kMi_T (hM : kMi h m o T Kf f tr rp rk bk kp zk va) (g : Nat → Int32) : kMi (kx_up h (m + 1) (ka 48 g)) m o g Kf f tr rp rk bk kp zk va := by
  obtain ⟨m0, m1, m2, m3, m4, m5, m6, m7, m8, m9, m10⟩ := hM
  exact ⟨by rw [ku_n (by omega)]; exact m0, ku_s, by rw [ku_n (by omega)]; exact m2, by rw [ku_n (by omega)]; exact m3, by rw [ku_n (by omega)]; exact m4, by rw [ku_n (by omega)]; exact m5, by rw [ku_n (by omega)]; exact m6, by rw [ku_n (by omega)]; exact m7, by rw [ku_n (by omega)]; exact m8, by rw [ku_n (by omega)]; exact m9, by rw [ku_n (by omega)]; exact m10⟩
theorem kMi_Kf (hM : kMi h m o T Kf f tr rp rk bk kp zk va) (g : Nat → Int32) : kMi (kx_up h (m + 2) (ka 5 g)) m o T g f tr rp rk bk kp zk va := by
  obtain ⟨m0, m1, m2, m3, m4, m5, m6, m7, m8, m9, m10⟩ := hM
  exact ⟨by rw [ku_n (by omega)]; exact m0, by rw [ku_n (by omega)]; exact m1, ku_s, by rw [ku_n (by omega)]; exact m3, by rw [ku_n (by omega)]; exact m4, by rw [ku_n (by omega)]; exact m5, by rw [ku_n (by omega)]; exact m6, by rw [ku_n (by omega)]; exact m7, by rw [ku_n (by omega)]; exact m8, by rw [ku_n (by omega)]; exact m9, by rw [ku_n (by omega)]; exact m10⟩
theorem kMi_rp (hM : kMi h m o T Kf f tr rp rk bk kp zk va) (g : Nat → Int32) : kMi (kx_up h (m + 3) (ka 15 g)) m o T Kf f tr g rk bk kp zk va := by
  obtain ⟨m0, m1, m2, m3, m4, m5, m6, m7, m8, m9, m10⟩ := hM
  exact ⟨by rw [ku_n (by omega)]; exact m0, by rw [ku_n (by omega)]; exact m1, by rw [ku_n (by omega)]; exact m2, ku_s, by rw [ku_n (by omega)]; exact m4, by rw [ku_n (by omega)]; exact m5, by rw [ku_n (by omega)]; exact m6, by rw [ku_n (by omega)]; exact m7, by rw [ku_n (by omega)]; exact m8, by rw [ku_n (by omega)]; exact m9, by rw [ku_n (by omega)]; exact m10⟩
theorem kMi_rk (hM : kMi h m o T Kf f tr rp rk bk kp zk va) (g : Nat → Int32) : kMi (kx_up h (m + 4) (ka 5 g)) m o T Kf f tr rp g bk kp zk va := by
  obtain ⟨m0, m1, m2, m3, m4, m5, m6, m7, m8, m9, m10⟩ := hM
  exact ⟨by rw [ku_n (by omega)]; exact m0, by rw [ku_n (by omega)]; exact m1, by rw [ku_n (by omega)]; exact m2, by rw [ku_n (by omega)]; exact m3, ku_s, by rw [ku_n (by omega)]; exact m5, by rw [ku_n (by omega)]; exact m6, by rw [ku_n (by omega)]; exact m7, by rw [ku_n (by omega)]; exact m8, by rw [ku_n (by omega)]; exact m9, by rw [ku_n (by omega)]; exact m10⟩
theorem kMi_f (hM : kMi h m o T Kf f tr rp rk bk kp zk va) (g : Nat → Int32) : kMi (kx_up h (m + 5) (ka 43 g)) m o T Kf g tr rp rk bk kp zk va := by
  obtain ⟨m0, m1, m2, m3, m4, m5, m6, m7, m8, m9, m10⟩ := hM
  exact ⟨by rw [ku_n (by omega)]; exact m0, by rw [ku_n (by omega)]; exact m1, by rw [ku_n (by omega)]; exact m2, by rw [ku_n (by omega)]; exact m3, by rw [ku_n (by omega)]; exact m4, ku_s, by rw [ku_n (by omega)]; exact m6, by rw [ku_n (by omega)]; exact m7, by rw [ku_n (by omega)]; exact m8, by rw [ku_n (by omega)]; exact m9, by rw [ku_n (by omega)]; exact m10⟩
theorem kMi_tr (hM : kMi h m o T Kf f tr rp rk bk kp zk va) (g : Nat → Int32) : kMi (kx_up h (m + 6) (ka 43 g)) m o T Kf f g rp rk bk kp zk va := by
  obtain ⟨m0, m1, m2, m3, m4, m5, m6, m7, m8, m9, m10⟩ := hM
  exact ⟨by rw [ku_n (by omega)]; exact m0, by rw [ku_n (by omega)]; exact m1, by rw [ku_n (by omega)]; exact m2, by rw [ku_n (by omega)]; exact m3, by rw [ku_n (by omega)]; exact m4, by rw [ku_n (by omega)]; exact m5, ku_s, by rw [ku_n (by omega)]; exact m7, by rw [ku_n (by omega)]; exact m8, by rw [ku_n (by omega)]; exact m9, by rw [ku_n (by omega)]; exact m10⟩
theorem kMi_bk (hM : kMi h m o T Kf f tr rp rk bk kp zk va) (g : Nat → Int32) : kMi (kx_up h (m + 7) (ka 602 g)) m o T Kf f tr rp rk g kp zk va := by
  obtain ⟨m0, m1, m2, m3, m4, m5, m6, m7, m8, m9, m10⟩ := hM
  exact ⟨by rw [ku_n (by omega)]; exact m0, by rw [ku_n (by omega)]; exact m1, by rw [ku_n (by omega)]; exact m2, by rw [ku_n (by omega)]; exact m3, by rw [ku_n (by omega)]; exact m4, by rw [ku_n (by omega)]; exact m5, by rw [ku_n (by omega)]; exact m6, ku_s, by rw [ku_n (by omega)]; exact m8, by rw [ku_n (by omega)]; exact m9, by rw [ku_n (by omega)]; exact m10⟩
theorem kMi_kp (hM : kMi h m o T Kf f tr rp rk bk kp zk va) (g : Nat → Int32) : kMi (kx_up h (m + 8) (ka 86 g)) m o T Kf f tr rp rk bk g zk va := by
  obtain ⟨m0, m1, m2, m3, m4, m5, m6, m7, m8, m9, m10⟩ := hM
  exact ⟨by rw [ku_n (by omega)]; exact m0, by rw [ku_n (by omega)]; exact m1, by rw [ku_n (by omega)]; exact m2, by rw [ku_n (by omega)]; exact m3, by rw [ku_n (by omega)]; exact m4, by rw [ku_n (by omega)]; exact m5, by rw [ku_n (by omega)]; exact m6, by rw [ku_n (by omega)]; exact m7, ku_s, by rw [ku_n (by omega)]; exact m9, by rw [ku_n (by omega)]; exact m10⟩
theorem kMi_zk (hM : kMi h m o T Kf f tr rp rk bk kp zk va) (g : Nat → Int32) : kMi (kx_up h (m + 9) (kz g)) m o T Kf f tr rp rk bk kp g va := by
  obtain ⟨m0, m1, m2, m3, m4, m5, m6, m7, m8, m9, m10⟩ := hM
  exact ⟨by rw [ku_n (by omega)]; exact m0, by rw [ku_n (by omega)]; exact m1, by rw [ku_n (by omega)]; exact m2, by rw [ku_n (by omega)]; exact m3, by rw [ku_n (by omega)]; exact m4, by rw [ku_n (by omega)]; exact m5, by rw [ku_n (by omega)]; exact m6, by rw [ku_n (by omega)]; exact m7, by rw [ku_n (by omega)]; exact m8, ku_s, by rw [ku_n (by omega)]; exact m10⟩
theorem kMi_va (hM : kMi h m o T Kf f tr rp rk bk kp zk va) (g : Nat → Int32) : kMi (kx_up h (m + 10) (ka 32 g)) m o T Kf f tr rp rk bk kp zk g := by
  obtain ⟨m0, m1, m2, m3, m4, m5, m6, m7, m8, m9, m10⟩ := hM
  exact ⟨by rw [ku_n (by omega)]; exact m0, by rw [ku_n (by omega)]; exact m1, by rw [ku_n (by omega)]; exact m2, by rw [ku_n (by omega)]; exact m3, by rw [ku_n (by omega)]; exact m4, by rw [ku_n (by omega)]; exact m5, by rw [ku_n (by omega)]; exact m6, by rw [ku_n (by omega)]; exact m7, by rw [ku_n (by omega)]; exact m8, by rw [ku_n (by omega)]; exact m9, ku_s⟩
end KMi
theorem as_n {u : PU} {n : Nat} (hw : WF u n) : ∀ i, n + i ≤ 5 → asI u (n + i) = asI u n
  | 0, _ => rfl
  | i + 1, h => by
    show asI u (n + i) + pSo u (n + i) = _
    rw [hw.2.2.2.2.2.2.2.2 (n + i) (by omega) (by omega), as_n hw i (by omega)]
    simp
theorem as_5 {u : PU} {n : Nat} (hw : WF u n) : asI u 5 = asI u n := by
  have h5 := hw.2.1
  have e := as_n hw (5 - n) (by omega)
  rwa [show n + (5 - n) = 5 by omega] at e
set_option maxRecDepth 20000 in
theorem y_about {G : kx_G} {d N m : Nat} {h : kx_H} {T : Nat → Int32} {L : Nat} {u : PU} {n C : Nat} {Ac K : Nat → PU} {kf : Nat → Int32} {sd : Int64} {w : Int32} (hM : kM h m T L u n C Ac K kf sd) (hw : WF u n) (hd : 20 ≤ d) : kx_Fn mX5_about d 0 0 G [.ref m, .int w] N h (some (.int (abI L u C w)), N, h) := by
  refine kx_Fn_of rfl (Nat.le_of_ble_eq_true rfl) rfl ?_ (kx_self)
  obtain ⟨o, Kf, f, tr, rp, rk, bk, kp, zk, va, hi9, r1, r2, r3, r4, r5, r6, r7, r8, r9, rC, rL⟩ := id hM
  obtain ⟨m0, m1, m2, m3, m4, m5, m6, m7, m8, m9, m10⟩ := id hi9
  have hn5 := hw.2.1
  obtain ⟨p1, p2, p3, p4, p5, p6, p7⟩ := id r6
  have LOOP : ∀ (k i : Nat), k + i = n → kx_Ok mX5_about d 0 0 G 0 0 9 [(0, .ref m), (1, .int w), (2, .int (asI u i)), (3, .int (nI i))] [] N h (some (.int (abI L u C w)), N, h) := by
    intro k
    induction k with
    | zero =>
      intro i hi
      obtain rfl : n = i := by omega
      refine ko_iload_n (i := 3) dX5_about_9 rfl rfl ?_
      refine ko_aload_n (i := 0) dX5_about_10 rfl rfl ?_
      refine ko_get fl_X5_45 dX5_about_11 m0 rfl ?_
      refine ko_icmp_ge (tgt := 34) dX5_about_14 (by decide) (fun c_14 => ?_) (fun c_14 => ?_)
      · refine ko_iload_n (i := 1) dX5_about_34 rfl rfl ?_
        rcases tsw w 6 (by omega) with ho | ⟨k9, hk9, rfl⟩
        · refine ko_tableOut (tgt := 117) dX5_about_35 ho (by decide) ?_
          refine ko_bipush (v := (-2)) dX5_about_117 (by decide) ?_
          refine ko_iret dX5_about_119 rfl (Nat.le_of_ble_eq_true rfl) (Nat.le_of_ble_eq_true rfl) ?_
          unfold abI
          rw [if_neg (tsw_ne ho (by omega) 0 (by omega)), if_neg (tsw_ne ho (by omega) 1 (by omega)), if_neg (tsw_ne ho (by omega) 2 (by omega)), if_neg (tsw_ne ho (by omega) 3 (by omega)), if_neg (tsw_ne ho (by omega) 4 (by omega)), if_neg (tsw_ne ho (by omega) 5 (by omega)), if_neg (tsw_ne ho (by omega) 6 (by omega))]
        · rcases (show k9 = 0 ∨ k9 = 1 ∨ k9 = 2 ∨ k9 = 3 ∨ k9 = 4 ∨ k9 = 5 ∨ k9 = 6 by omega) with rfl | rfl | rfl | rfl | rfl | rfl | rfl
          · refine ko_tableIn (off := 41) (tgt := 76) dX5_about_35 (by decide) (by decide) rfl (by decide) ?_
            refine ko_aload_n (i := 0) dX5_about_76 rfl rfl ?_
            refine ko_get fl_X5_45 dX5_about_77 m0 rfl ?_
            refine ko_iret dX5_about_80 rfl (Nat.le_of_ble_eq_true rfl) (Nat.le_of_ble_eq_true rfl) ?_
            rw [r2, ← hw.1]
            rfl
          · refine ko_tableIn (off := 46) (tgt := 81) dX5_about_35 (by decide) (by decide) rfl (by decide) ?_
            refine ko_aload_n (i := 0) dX5_about_81 rfl rfl ?_
            refine ko_get fl_X5_22 dX5_about_82 m0 rfl ?_
            refine ko_bipush (v := 15) dX5_about_85 (by decide) ?_
            refine ko_iald dX5_about_87 m5 (in15 (i := 15) (by omega)) ?_
            refine ko_st (st' := [.int (f 15)]) rfl ?_
            rw [p4]
            refine ko_iret dX5_about_88 rfl (Nat.le_of_ble_eq_true rfl) (Nat.le_of_ble_eq_true rfl) ?_
            rfl
          · refine ko_tableIn (off := 54) (tgt := 89) dX5_about_35 (by decide) (by decide) rfl (by decide) ?_
            refine ko_aload_n (i := 0) dX5_about_89 rfl rfl ?_
            refine ko_get fl_X5_22 dX5_about_90 m0 rfl ?_
            refine ko_bipush (v := 42) dX5_about_93 (by decide) ?_
            refine ko_iald dX5_about_95 m5 (in15 (i := 42) (by omega)) ?_
            refine ko_st (st' := [.int (f 42)]) rfl ?_
            rw [p7]
            refine ko_iret dX5_about_96 rfl (Nat.le_of_ble_eq_true rfl) (Nat.le_of_ble_eq_true rfl) ?_
            rfl
          · refine ko_tableIn (off := 62) (tgt := 97) dX5_about_35 (by decide) (by decide) rfl (by decide) ?_
            refine ko_aload_n (i := 0) dX5_about_97 rfl rfl ?_
            refine ko_get fl_X5_22 dX5_about_98 m0 rfl ?_
            refine ko_bipush (v := 41) dX5_about_101 (by decide) ?_
            refine ko_iald dX5_about_103 m5 (in15 (i := 41) (by omega)) ?_
            refine ko_st (st' := [.int (f 41)]) rfl ?_
            rw [p6]
            refine ko_iret dX5_about_104 rfl (Nat.le_of_ble_eq_true rfl) (Nat.le_of_ble_eq_true rfl) ?_
            rfl
          · refine ko_tableIn (off := 70) (tgt := 105) dX5_about_35 (by decide) (by decide) rfl (by decide) ?_
            refine ko_aload_n (i := 0) dX5_about_105 rfl rfl ?_
            refine ko_get fl_X5_90 dX5_about_106 m0 rfl ?_
            refine ko_iret dX5_about_109 rfl (Nat.le_of_ble_eq_true rfl) (Nat.le_of_ble_eq_true rfl) ?_
            rw [r3]
            rfl
          · refine ko_tableIn (off := 75) (tgt := 110) dX5_about_35 (by decide) (by decide) rfl (by decide) ?_
            refine ko_aload_n (i := 0) dX5_about_110 rfl rfl ?_
            refine ko_get fl_X5_54 dX5_about_111 m0 rfl ?_
            refine ko_iret dX5_about_114 rfl (Nat.le_of_ble_eq_true rfl) (Nat.le_of_ble_eq_true rfl) ?_
            rw [r1]
            rfl
          · refine ko_tableIn (off := 80) (tgt := 115) dX5_about_35 (by decide) (by decide) rfl (by decide) ?_
            refine ko_iload_n (i := 2) dX5_about_115 rfl rfl ?_
            refine ko_iret dX5_about_116 rfl (Nat.le_of_ble_eq_true rfl) (Nat.le_of_ble_eq_true rfl) ?_
            rw [← as_5 hw]
            rfl
      · exact absurd (show mN o ≤ nI n by rw [r2]; exact nI_le (Nat.le_refl _) (by omega)) c_14
    | succ k ih =>
      intro i hi
      refine ko_iload_n (i := 3) dX5_about_9 rfl rfl ?_
      refine ko_aload_n (i := 0) dX5_about_10 rfl rfl ?_
      refine ko_get fl_X5_45 dX5_about_11 m0 rfl ?_
      refine ko_icmp_ge (tgt := 34) dX5_about_14 (by decide) (fun c_14 => ?_) (fun c_14 => ?_)
      · exact absurd (show nI n ≤ nI i from by rw [← r2]; exact c_14) (nI_ge (by omega) (by omega))
      · refine ko_iload_n (i := 2) dX5_about_17 rfl rfl ?_
        refine ko_aload_n (i := 0) dX5_about_18 rfl rfl ?_
        refine ko_get fl_X5_22 dX5_about_19 m0 rfl ?_
        refine ko_iconst (v := 0) dX5_about_22 (by decide) ?_
        refine ko_iload_n (i := 3) dX5_about_23 rfl rfl ?_
        refine ko_iadd dX5_about_24 ?_
        rw [a0]
        refine ko_iald dX5_about_25 m5 (in15 (by omega)) ?_
        rw [nI_clamp (by omega), p1 i (by omega)]
        refine ko_iadd dX5_about_26 ?_
        refine ko_istore_n (i := 2) (lv' := [(0, _), (1, _), (2, _), (3, _)]) dX5_about_27 rfl (by decide) rfl rfl rfl ?_
        refine ko_inc1 (i := 3) (lv' := [(0, _), (1, _), (2, _), (3, _)]) dX5_about_28 rfl (by decide) rfl rfl rfl ?_
        refine ko_goto (tgt := 9) dX5_about_31 (by decide) ?_
        exact ko_lv (by simp [asI, nI_succ]) (ih (i + 1) (by omega))
  refine ko_aload_n (i := 0) dX5_about_0 rfl rfl ?_
  refine ko_iconst (v := 0) dX5_about_1 (by decide) ?_
  refine ko_put fl_X5_41 dX5_about_2 m0 rfl rfl (Nat.le_of_ble_eq_true rfl) ?_
  refine ko_h (ku_same m0) ?_
  refine ko_iconst (v := 0) dX5_about_5 (by decide) ?_
  refine ko_istore_n (i := 2) (lv' := [(0, _), (1, _), (2, _)]) dX5_about_6 rfl (by decide) rfl rfl rfl ?_
  refine ko_iconst (v := 0) dX5_about_7 (by decide) ?_
  refine ko_istore_n (i := 3) (lv' := [(0, _), (1, _), (2, _), (3, _)]) dX5_about_8 rfl (by decide) rfl rfl rfl ?_
  exact LOOP n 0 (by omega)
set_option maxRecDepth 20000 in
theorem y_person {G : kx_G} {d N m : Nat} {h : kx_H} {T : Nat → Int32} {L : Nat} {u : PU} {n C : Nat} {Ac K : Nat → PU} {kf : Nat → Int32} {sd : Int64} {p w : Int32} (hM : kM h m T L u n C Ac K kf sd) (hw : WF u n) (hd : 20 ≤ d) : kx_Fn mX5_person d 0 0 G [.ref m, .int p, .int w] N h (some (.int (peI u p w)), N, h) := by
  refine kx_Fn_of rfl (Nat.le_of_ble_eq_true rfl) rfl ?_ (kx_self)
  obtain ⟨o, Kf, f, tr, rp, rk, bk, kp, zk, va, hi9, r1, r2, r3, r4, r5, r6, r7, r8, r9, rC, rL⟩ := id hM
  obtain ⟨m0, m1, m2, m3, m4, m5, m6, m7, m8, m9, m10⟩ := id hi9
  have hn5 := hw.2.1
  obtain ⟨p1, p2, p3, p4, p5, p6, p7⟩ := id r6
  refine ko_aload_n (i := 0) dX5_person_0 rfl rfl ?_
  refine ko_iconst (v := 0) dX5_person_1 (by decide) ?_
  refine ko_put fl_X5_41 dX5_person_2 m0 rfl rfl (Nat.le_of_ble_eq_true rfl) ?_
  refine ko_h (ku_same m0) ?_
  refine ko_aload_n (i := 0) dX5_person_5 rfl rfl ?_
  refine ko_iload_n (i := 1) dX5_person_6 rfl rfl ?_
  refine ko_callVr lk_X5_108 dX5_person_7 (fn_noPerson (d := d - 1) m0 r2 hn5 (by omega)) rfl rfl m0 rfl rfl (by omega) (by omega) (by omega) (Nat.le_of_ble_eq_true rfl) ?_
  first | refine ko_ifb_eq (tgt := 15) dX5_person_10 (by decide) (fun c_10 => ?_) (fun c_10 => ?_) | refine ko_if_eq (tgt := 15) dX5_person_10 (by decide) (fun c_10 => ?_) (fun c_10 => ?_)
  · have hh : hasI (nI n) p = true := by
      rw [Bool.not_eq_false'] at c_10
      exact c_10
    obtain ⟨i, hi, rfl⟩ := has_of hn5 hh
    have ci : (nI i).toNatClampNeg = i := nI_clamp (by omega)
    have hx : ∀ a b : Int32, (if hasI (pN u) (nI i) = false then a else b) = b := fun a b => if_neg (by rw [hasW hw hi]; decide)
    refine ko_iload_n (i := 2) dX5_person_15 rfl rfl ?_
    rcases tsw w 5 (by omega) with ho | ⟨k9, hk9, rfl⟩
    · refine ko_tableOut (tgt := 107) dX5_person_16 ho (by decide) ?_
      refine ko_bipush (v := (-2)) dX5_person_107 (by decide) ?_
      refine ko_iret dX5_person_109 rfl (Nat.le_of_ble_eq_true rfl) (Nat.le_of_ble_eq_true rfl) ?_
      unfold peI
      rw [hx, if_neg (tsw_ne ho (by omega) 0 (by omega)), if_neg (tsw_ne ho (by omega) 1 (by omega)), if_neg (tsw_ne ho (by omega) 2 (by omega)), if_neg (tsw_ne ho (by omega) 3 (by omega)), if_neg (tsw_ne ho (by omega) 4 (by omega)), if_neg (tsw_ne ho (by omega) 5 (by omega))]
    · rcases (show k9 = 0 ∨ k9 = 1 ∨ k9 = 2 ∨ k9 = 3 ∨ k9 = 4 ∨ k9 = 5 by omega) with rfl | rfl | rfl | rfl | rfl | rfl
      · refine ko_tableIn (off := 40) (tgt := 56) dX5_person_16 (by decide) (by decide) rfl (by decide) ?_
        refine ko_aload_n (i := 0) dX5_person_56 rfl rfl ?_
        refine ko_get fl_X5_22 dX5_person_57 m0 rfl ?_
        refine ko_iconst (v := 0) dX5_person_60 (by decide) ?_
        refine ko_iload_n (i := 1) dX5_person_61 rfl rfl ?_
        refine ko_iadd dX5_person_62 ?_
        rw [a0]
        refine ko_iald dX5_person_63 m5 (in15 (by omega)) ?_
        rw [ci, p1 i (by omega)]
        refine ko_iret dX5_person_64 rfl (Nat.le_of_ble_eq_true rfl) (Nat.le_of_ble_eq_true rfl) ?_
        unfold peI
        rw [hx, ci]
        rfl
      · refine ko_tableIn (off := 49) (tgt := 65) dX5_person_16 (by decide) (by decide) rfl (by decide) ?_
        refine ko_aload_n (i := 0) dX5_person_65 rfl rfl ?_
        refine ko_get fl_X5_22 dX5_person_66 m0 rfl ?_
        refine ko_iconst (v := 5) dX5_person_69 (by decide) ?_
        refine ko_iload_n (i := 1) dX5_person_70 rfl rfl ?_
        refine ko_iadd dX5_person_71 ?_
        rw [a5]
        refine ko_iald dX5_person_72 m5 (in15 (by omega)) ?_
        rw [nI_clamp (by omega), p2 i (by omega)]
        refine ko_iret dX5_person_73 rfl (Nat.le_of_ble_eq_true rfl) (Nat.le_of_ble_eq_true rfl) ?_
        unfold peI
        rw [hx, ci]
        rfl
      · refine ko_tableIn (off := 58) (tgt := 74) dX5_person_16 (by decide) (by decide) rfl (by decide) ?_
        refine ko_aload_n (i := 0) dX5_person_74 rfl rfl ?_
        refine ko_get fl_X5_13 dX5_person_75 m0 rfl ?_
        refine ko_iload_n (i := 1) dX5_person_78 rfl rfl ?_
        refine ko_iald dX5_person_79 m2 (ix5 (by omega)) ?_
        rw [ci, r5 i hi]
        refine ko_iret dX5_person_80 rfl (Nat.le_of_ble_eq_true rfl) (Nat.le_of_ble_eq_true rfl) ?_
        unfold peI
        rw [hx, ci]
        rfl
      · refine ko_tableIn (off := 65) (tgt := 81) dX5_person_16 (by decide) (by decide) rfl (by decide) ?_
        refine ko_aload_n (i := 0) dX5_person_81 rfl rfl ?_
        refine ko_get fl_X5_22 dX5_person_82 m0 rfl ?_
        refine ko_bipush (v := 10) dX5_person_85 (by decide) ?_
        refine ko_iload_n (i := 1) dX5_person_87 rfl rfl ?_
        refine ko_iadd dX5_person_88 ?_
        rw [a10]
        refine ko_iald dX5_person_89 m5 (in15 (by omega)) ?_
        rw [nI_clamp (by omega), p3 i (by omega)]
        refine ko_iret dX5_person_90 rfl (Nat.le_of_ble_eq_true rfl) (Nat.le_of_ble_eq_true rfl) ?_
        unfold peI
        rw [hx, ci]
        rfl
      · refine ko_tableIn (off := 75) (tgt := 91) dX5_person_16 (by decide) (by decide) rfl (by decide) ?_
        refine ko_aload_n (i := 0) dX5_person_91 rfl rfl ?_
        refine ko_aload_n (i := 0) dX5_person_92 rfl rfl ?_
        refine ko_get fl_X5_22 dX5_person_93 m0 rfl ?_
        refine ko_iload_n (i := 1) dX5_person_96 rfl rfl ?_
        refine ko_callVr lk_X5_97 dX5_person_97 (fn_mounces (d := d - 1) m0 m2 r5 m5 r6 hw hi) rfl rfl m0 rfl rfl (by omega) (by omega) (by omega) (Nat.le_of_ble_eq_true rfl) ?_
        refine ko_iret dX5_person_100 rfl (Nat.le_of_ble_eq_true rfl) (Nat.le_of_ble_eq_true rfl) ?_
        unfold peI
        rw [hx, ci]
        rfl
      · refine ko_tableIn (off := 85) (tgt := 101) dX5_person_16 (by decide) (by decide) rfl (by decide) ?_
        refine ko_aload_n (i := 0) dX5_person_101 rfl rfl ?_
        refine ko_iload_n (i := 1) dX5_person_102 rfl rfl ?_
        refine ko_callVr lk_X5_112 dX5_person_103 (fn_mmayFor (d := d - 1) m0 r2 m2 r5 m5 r6 hw hi (by omega)) rfl rfl m0 rfl rfl (by omega) (by omega) (by omega) (Nat.le_of_ble_eq_true rfl) ?_
        refine ko_iret dX5_person_106 rfl (Nat.le_of_ble_eq_true rfl) (Nat.le_of_ble_eq_true rfl) ?_
        unfold peI
        rw [hx, ci]
        rfl
  · have hh : hasI (nI n) p = false := by
      rw [Bool.not_eq_true'] at c_10
      exact c_10
    refine ko_iconst (v := (-1)) dX5_person_13 (by decide) ?_
    refine ko_iret dX5_person_14 rfl (Nat.le_of_ble_eq_true rfl) (Nat.le_of_ble_eq_true rfl) ?_
    unfold peI
    rw [hw.1, hh]
    rfl
set_option maxRecDepth 20000 in
theorem y_owes {G : kx_G} {d N m : Nat} {h : kx_H} {T : Nat → Int32} {L : Nat} {u : PU} {n C : Nat} {Ac K : Nat → PU} {kf : Nat → Int32} {sd : Int64} {p q : Int32} (hM : kM h m T L u n C Ac K kf sd) (hw : WF u n) (hd : 20 ≤ d) : kx_Fn mX5_owes d 0 0 G [.ref m, .int p, .int q] N h (some (.int (owI u p q)), N, h) := by
  refine kx_Fn_of rfl (Nat.le_of_ble_eq_true rfl) rfl ?_ (kx_self)
  obtain ⟨o, Kf, f, tr, rp, rk, bk, kp, zk, va, hi9, r1, r2, r3, r4, r5, r6, r7, r8, r9, rC, rL⟩ := id hM
  obtain ⟨m0, m1, m2, m3, m4, m5, m6, m7, m8, m9, m10⟩ := id hi9
  have hn5 := hw.2.1
  obtain ⟨p1, p2, p3, p4, p5, p6, p7⟩ := id r6
  refine ko_aload_n (i := 0) dX5_owes_0 rfl rfl ?_
  refine ko_iconst (v := 0) dX5_owes_1 (by decide) ?_
  refine ko_put fl_X5_41 dX5_owes_2 m0 rfl rfl (Nat.le_of_ble_eq_true rfl) ?_
  refine ko_h (ku_same m0) ?_
  refine ko_aload_n (i := 0) dX5_owes_5 rfl rfl ?_
  refine ko_iload_n (i := 1) dX5_owes_6 rfl rfl ?_
  refine ko_callVr lk_X5_108 dX5_owes_7 (fn_noPerson (d := d - 1) m0 r2 hn5 (by omega)) rfl rfl m0 rfl rfl (by omega) (by omega) (by omega) (Nat.le_of_ble_eq_true rfl) ?_
  first | refine ko_ifb_ne (tgt := 21) dX5_owes_10 (by decide) (fun c_10 => ?_) (fun c_10 => ?_) | refine ko_if_ne (tgt := 21) dX5_owes_10 (by decide) (fun c_10 => ?_) (fun c_10 => ?_)
  · have h_10 : hasI (nI n) p = false := by
      rw [Bool.not_eq_true'] at c_10
      exact c_10
    refine ko_iconst (v := (-1)) dX5_owes_21 (by decide) ?_
    refine ko_goto (tgt := 38) dX5_owes_22 (by decide) ?_
    refine ko_iret dX5_owes_38 rfl (Nat.le_of_ble_eq_true rfl) (Nat.le_of_ble_eq_true rfl) ?_
    first
      | (unfold owI dbI; rw [hasW hw hi, hasW hw hj, cq]; rfl)
      | (unfold owI; rw [hw.1, h_10]; rfl)
      | (unfold owI; rw [hw.1, h_10, h_18]; rfl)
  · have h_10 : hasI (nI n) p = true := by
      rw [Bool.not_eq_false'] at c_10
      exact c_10
    refine ko_aload_n (i := 0) dX5_owes_13 rfl rfl ?_
    refine ko_iload_n (i := 2) dX5_owes_14 rfl rfl ?_
    refine ko_callVr lk_X5_108 dX5_owes_15 (fn_noPerson (d := d - 1) m0 r2 hn5 (by omega)) rfl rfl m0 rfl rfl (by omega) (by omega) (by omega) (Nat.le_of_ble_eq_true rfl) ?_
    first | refine ko_ifb_eq (tgt := 25) dX5_owes_18 (by decide) (fun c_18 => ?_) (fun c_18 => ?_) | refine ko_if_eq (tgt := 25) dX5_owes_18 (by decide) (fun c_18 => ?_) (fun c_18 => ?_)
    · have h_18 : hasI (nI n) q = true := by
        rw [Bool.not_eq_false'] at c_18
        exact c_18
      obtain ⟨i, hi, rfl⟩ := has_of hn5 h_10
      obtain ⟨j, hj, rfl⟩ := has_of hn5 h_18
      have cq : (nI i * 5 + nI j).toNatClampNeg = i * 5 + j := by rw [(in25 (hasW hw hi) (hasW hw hj)).2, nI_clamp (by omega), nI_clamp (by omega)]
      refine ko_aload_n (i := 0) dX5_owes_25 rfl rfl ?_
      refine ko_get fl_X5_22 dX5_owes_26 m0 rfl ?_
      refine ko_bipush (v := 16) dX5_owes_29 (by decide) ?_
      refine ko_iconst (v := 5) dX5_owes_31 (by decide) ?_
      refine ko_iload_n (i := 1) dX5_owes_32 rfl rfl ?_
      refine ko_imul dX5_owes_33 ?_
      refine ko_iadd dX5_owes_34 ?_
      refine ko_iload_n (i := 2) dX5_owes_35 rfl rfl ?_
      refine ko_iadd dX5_owes_36 ?_
      rw [a16]
      refine ko_iald dX5_owes_37 m5 (in15 (by omega)) ?_
      rw [nI_clamp (by omega), show 16 + 5 * i + j = 16 + (i * 5 + j) by omega, p5 _ (by omega)]
      refine ko_iret dX5_owes_38 rfl (Nat.le_of_ble_eq_true rfl) (Nat.le_of_ble_eq_true rfl) ?_
      first
        | (unfold owI dbI; rw [hasW hw hi, hasW hw hj, cq]; rfl)
        | (unfold owI; rw [hw.1, h_10]; rfl)
        | (unfold owI; rw [hw.1, h_10, h_18]; rfl)
    · have h_18 : hasI (nI n) q = false := by
        rw [Bool.not_eq_true'] at c_18
        exact c_18
      refine ko_iconst (v := (-1)) dX5_owes_21 (by decide) ?_
      refine ko_goto (tgt := 38) dX5_owes_22 (by decide) ?_
      refine ko_iret dX5_owes_38 rfl (Nat.le_of_ble_eq_true rfl) (Nat.le_of_ble_eq_true rfl) ?_
      first
        | (unfold owI dbI; rw [hasW hw hi, hasW hw hj, cq]; rfl)
        | (unfold owI; rw [hw.1, h_10]; rfl)
        | (unfold owI; rw [hw.1, h_10, h_18]; rfl)
set_option maxRecDepth 20000 in
theorem y_seed {G : kx_G} {d N m : Nat} {h : kx_H} {T : Nat → Int32} {L : Nat} {u : PU} {n C : Nat} {Ac K : Nat → PU} {kf : Nat → Int32} {sd : Int64} {v : Int64}  (hM : kM h m T L u n C Ac K kf sd) (hw : WF u n) (hd : 20 ≤ d) : ∃ g, kx_Fn mX5_seed d 0 0 G [.ref m, .long v] N h (some (.long sd), N, g) ∧ kM g m T L u n C Ac K kf v ∧ kFr h g m 10 := by
  obtain ⟨o, Kf, f, tr, rp, rk, bk, kp, zk, va, hi9, r1, r2, r3, r4, r5, r6, r7, r8, r9, rC, rL⟩ := id hM
  obtain ⟨m0, m1, m2, m3, m4, m5, m6, m7, m8, m9, m10⟩ := id hi9
  have hn5 := hw.2.1
  obtain ⟨p1, p2, p3, p4, p5, p6, p7⟩ := id r6
  have fr : kFr h (kx_up h m (kmo m (mTs o, mPl o, mN o, mRp o, mAc o, v, mSm o, mSo o, mSw o, mRm o, mRf o))) m 10 := kFr.up (by omega)
  refine ⟨(kx_up h m (kmo m (mTs o, mPl o, mN o, mRp o, mAc o, v, mSm o, mSo o, mSw o, mRm o, mRf o))), kx_Fn_of rfl (Nat.le_of_ble_eq_true rfl) rfl ?_ (kM_dom hM fr), ⟨_, Kf, f, tr, rp, rk, bk, kp, zk, va, kMi_o hi9 _, r1, r2, r3, rfl, r5, r6, r7, r8, r9, rC, rL⟩, fr⟩
  · refine ko_aload_n (i := 0) dX5_seed_0 rfl rfl ?_
    refine ko_iconst (v := 0) dX5_seed_1 (by decide) ?_
    refine ko_put fl_X5_41 dX5_seed_2 m0 rfl rfl (Nat.le_of_ble_eq_true rfl) ?_
    refine ko_h (ku_same m0) ?_
    refine ko_aload_n (i := 0) dX5_seed_5 rfl rfl ?_
    refine ko_get fl_X5_186 dX5_seed_6 m0 rfl ?_
    refine ko_lstore_n (i := 3) (lv' := [(3, _), (0, _), (1, _)]) dX5_seed_9 rfl (by decide) rfl ?_
    refine ko_aload_n (i := 0) dX5_seed_10 rfl rfl ?_
    refine ko_lload_n (i := 1) dX5_seed_11 rfl rfl ?_
    refine ko_put fl_X5_186 dX5_seed_12 m0 rfl rfl (Nat.le_of_ble_eq_true rfl) ?_
    refine ko_lload_n (i := 3) dX5_seed_15 rfl rfl ?_
    refine ko_lret dX5_seed_16 rfl (Nat.le_of_ble_eq_true rfl) (Nat.le_of_ble_eq_true rfl) ?_
    rw [r4]
    rfl
set_option maxRecDepth 20000 in
theorem y_wipe {G : kx_G} {d N m : Nat} {h : kx_H} {T : Nat → Int32} {L : Nat} {u : PU} {n C : Nat} {Ac K : Nat → PU} {kf : Nat → Int32} {sd : Int64}   (hM : kM h m T L u n C Ac K kf sd) (hw : WF u n) (hd : 20 ≤ d) : ∃ g, kx_Fn mX5_wipe d 0 0 G [.ref m] N h (some (.int (nI L)), N, g) ∧ kM g m T 0 u n C Ac K kf sd ∧ kFr h g m 10 := by
  obtain ⟨o, Kf, f, tr, rp, rk, bk, kp, zk, va, hi9, r1, r2, r3, r4, r5, r6, r7, r8, r9, rC, rL⟩ := id hM
  obtain ⟨m0, m1, m2, m3, m4, m5, m6, m7, m8, m9, m10⟩ := id hi9
  have hn5 := hw.2.1
  obtain ⟨p1, p2, p3, p4, p5, p6, p7⟩ := id r6
  have fr : kFr h (kx_up h m (kmo m (0, mPl o, mN o, mRp o, mAc o, mSd o, mSm o, mSo o, mSw o, mRm o, mRf o))) m 10 := kFr.up (by omega)
  refine ⟨(kx_up h m (kmo m (0, mPl o, mN o, mRp o, mAc o, mSd o, mSm o, mSo o, mSw o, mRm o, mRf o))), kx_Fn_of rfl (Nat.le_of_ble_eq_true rfl) rfl ?_ (kM_dom hM fr), ⟨_, Kf, f, tr, rp, rk, bk, kp, zk, va, kMi_o hi9 _, rfl, r2, r3, r4, r5, r6, r7, r8, r9, rC, by omega⟩, fr⟩
  · refine ko_aload_n (i := 0) dX5_wipe_0 rfl rfl ?_
    refine ko_iconst (v := 0) dX5_wipe_1 (by decide) ?_
    refine ko_put fl_X5_41 dX5_wipe_2 m0 rfl rfl (Nat.le_of_ble_eq_true rfl) ?_
    refine ko_h (ku_same m0) ?_
    refine ko_aload_n (i := 0) dX5_wipe_5 rfl rfl ?_
    refine ko_get fl_X5_54 dX5_wipe_6 m0 rfl ?_
    refine ko_istore_n (i := 1) (lv' := [(0, _), (1, _)]) dX5_wipe_9 rfl (by decide) rfl rfl rfl ?_
    refine ko_aload_n (i := 0) dX5_wipe_10 rfl rfl ?_
    refine ko_iconst (v := 0) dX5_wipe_11 (by decide) ?_
    refine ko_put fl_X5_54 dX5_wipe_12 m0 rfl rfl (Nat.le_of_ble_eq_true rfl) ?_
    refine ko_iload_n (i := 1) dX5_wipe_15 rfl rfl ?_
    refine ko_iret dX5_wipe_16 rfl (Nat.le_of_ble_eq_true rfl) (Nat.le_of_ble_eq_true rfl) ?_
    rw [r1]
    rfl
