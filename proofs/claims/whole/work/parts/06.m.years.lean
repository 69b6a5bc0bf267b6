/-! ===== the reference: years ===== -/
theorem gpF_R {f : Nat → Int32} {u : PU} {n i j : Nat} (hp : pgR f u) (hw : WF u n) (hi : i < n) (hj : j < n) (ho : mayI u (nI i) (nI j) = true) : pgR (gpF f i j (ozI u (nI i))) (wfU u (nI i) (nI j)) := by
  have hn5 := hw.2.1
  have ci : (nI i).toNatClampNeg = i := nI_clamp (by omega)
  have eU : wfU u (nI i) (nI j) = stU (upd (pSo u) i (pSo u i - ozI u (nI i)), u.2) (nI i) (nI j) := by
    unfold wfU
    rw [if_pos (hasW hw hi), if_pos ho, ci]
  have eP : pgR (upd f i (f i - ozI u (nI i))) (upd (pSo u) i (pSo u i - ozI u (nI i)), u.2) := by
    obtain ⟨w1, w2, w3, w4, w5, w6, w7⟩ := hp
    refine ⟨fun k hk => ?_, fun k hk => by rw [pk_un (by omega)]; exact w2 k hk, fun k hk => by rw [pk_un (by omega)]; exact w3 k hk, by rw [pk_un (by omega)]; exact w4, fun k hk => by rw [pk_un (by omega)]; exact w5 k hk, by rw [pk_un (by omega)]; exact w6, by rw [pk_un (by omega)]; exact w7⟩
    show _ = upd (pSo u) i _ k
    rw [w1 i (by omega)]
    by_cases h1 : k = i
    · subst h1; rw [pk_us, pk_us]
    · rw [pk_un h1, pk_un h1]; exact w1 k hk
  rw [eU]
  exact clF_R eP (WF_so hw hi) hi hj
def yF1 (f : Nat → Int32) (v : PU) (q : Int32) : Nat → Int32 := if hasI (pN v) q = true then if hbI (pOp v) q = true then f else opF f q.toNatClampNeg else f
def yF2 (f : Nat → Int32) (v : PU) (p q : Int32) : Nat → Int32 := if hasI (pN v) q = true then if hasI (pN v) p = true then if mayI v p q = true then gpF f p.toNatClampNeg q.toNatClampNeg (ozI v p) else f else f else f
theorem yF1_R {f : Nat → Int32} {v : PU} {n : Nat} {q : Int32} (hp : pgR f v) (hw : WF v n) : pgR (yF1 f v q) (brU v q) ∧ WF (brU v q) n := by
  unfold yF1
  by_cases h1 : hasI (pN v) q = true
  · obtain ⟨j, hj, rfl⟩ := has_of hw.2.1 (by rw [← hw.1]; exact h1)
    rw [if_pos h1, nI_clamp (by have := hw.2.1; omega)]
    refine ⟨?_, WF_br hw hj⟩
    by_cases h2 : hbI (pOp v) (nI j) = true
    · rw [if_pos h2]
      unfold brU
      rw [if_pos h1, if_pos h2]
      exact hp
    · rw [if_neg h2]
      exact opF_R hp hw hj (by rw [← Bool.not_eq_true]; exact h2)
  · have e : brU v q = v := by unfold brU; rw [if_neg h1]
    rw [if_neg h1, e]
    exact ⟨hp, hw⟩
theorem may_q {v : PU} {n : Nat} {p q : Int32} (hw : WF v n) (h : mayI v p q = true) : hasI (pN v) q = true := by
  have h1 : hbI (pOp v) q = true := by
    unfold mayI at h
    rw [Bool.and_eq_true] at h
    exact h.1
  have h3 : ¬ q < 0 ∧ ¬ 5 ≤ q := by
    unfold hbI at h1
    simp only [Bool.and_eq_true, Bool.not_eq_true', decide_eq_false_iff_not] at h1
    exact ⟨h1.1, h1.2.1⟩
  obtain ⟨j, hj, rfl⟩ := vp_in_of (in5 h3.1 h3.2) (by decide)
  rcases Nat.lt_or_ge j n with h2 | h2
  · exact hasW hw h2
  · rw [op_out hw h2 hj] at h1
    exact absurd h1 (by decide)
theorem yF2_R {f : Nat → Int32} {v : PU} {n : Nat} {p q : Int32} (hp : pgR f v) (hw : WF v n) : pgR (yF2 f v p q) (wfU v p q) ∧ WF (wfU v p q) n := by
  by_cases h1 : hasI (pN v) p = true
  · by_cases h2 : mayI v p q = true
    · have h3 := may_q hw h2
      obtain ⟨i, hi, rfl⟩ := has_of hw.2.1 (by rw [← hw.1]; exact h1)
      obtain ⟨j, hj, rfl⟩ := has_of hw.2.1 (by rw [← hw.1]; exact h3)
      unfold yF2
      rw [if_pos h3, if_pos h1, if_pos h2, nI_clamp (by have := hw.2.1; omega), nI_clamp (by have := hw.2.1; omega)]
      exact ⟨gpF_R hp hw hi hj h2, WF_wf hw hi hj⟩
    · have e : wfU v p q = v := by unfold wfU; rw [if_pos h1, if_neg h2]
      have e2 : yF2 f v p q = f := by
        unfold yF2
        rw [if_pos h1, if_neg h2]
        split
        · rfl
        · rfl
      rw [e, e2]
      exact ⟨hp, hw⟩
  · have e : wfU v p q = v := by unfold wfU; rw [if_neg h1]
    have e2 : yF2 f v p q = f := by
      unfold yF2
      rw [if_neg h1]
      split
      · rfl
      · rfl
    rw [e, e2]
    exact ⟨hp, hw⟩
theorem wf_le0 {v : PU} {n : Nat} {p q : Int32} (hw : WF v n) (h : (hasI (pN v) q && (hasI (pN v) p && mayI v p q)) = false) : wfI v p q ≤ 0 := by
  unfold wfI
  by_cases h1 : hasI (pN v) p = true
  · rw [if_pos h1]
    by_cases h2 : mayI v p q = true
    · rw [may_q hw h2, h1, h2] at h
      exact absurd h (by decide)
    · rw [if_neg h2]
      decide
  · rw [if_neg h1]
    decide
theorem wf_gt0 {v : PU} {p q : Int32} (h1 : hasI (pN v) p = true) (h2 : mayI v p q = true) : ¬ wfI v p q ≤ 0 := by
  unfold wfI
  rw [if_pos h1, if_pos h2, ← lt1]
  unfold mayI fitI at h2
  simp only [Bool.and_eq_true, Bool.not_eq_true', decide_eq_false_iff_not] at h2
  exact h2.2.2.1
def yF (f : Nat → Int32) (u : PU) (n : Nat) (sd : Int64) : Nat → (Nat → Int32)
  | 0 => f
  | i + 1 => gwG (yF2 (yF1 (yF f u n sd i) (yU u n sd i) (yQ (yZ sd (i + 1)))) (brU (yU u n sd i) (yQ (yZ sd (i + 1)))) (yP (yZ sd (i + 1))) (yQ (yZ sd (i + 1)))) n
theorem yF_R {f : Nat → Int32} {u : PU} {n : Nat} {sd : Int64} (hp : pgR f u) (hw : WF u n) : ∀ i, pgR (yF f u n sd i) (yU u n sd i) ∧ WF (yU u n sd i) n
  | 0 => ⟨hp, hw⟩
  | i + 1 => by
    obtain ⟨a1, a2⟩ := yF_R hp hw i
    obtain ⟨b1, b2⟩ := yF1_R (q := yQ (yZ sd (i + 1))) a1 a2
    obtain ⟨c1, c2⟩ := yF2_R (p := yP (yZ sd (i + 1))) (q := yQ (yZ sd (i + 1))) b1 b2
    exact ⟨gwG_R c1 c2, WF_pw c2⟩
theorem kd_yU (u : PU) (n : Nat) (sd : Int64) : ∀ i, pKd (yU u n sd i) = pKd u
  | 0 => rfl
  | i + 1 => by
    show pKd (pwU (yV _ _) n) = _
    rw [kd_pw]
    unfold yV
    rw [kd_wf, kd_br]
    exact kd_yU u n sd i
/-- the heap in a year: the trial page, the seed -/
def yH (h : kx_H) (m : Nat) (o : MO) (F : Nat → Int32) (z : Int64) : kx_H := kx_up (kx_up h (m + 6) (ka 43 F)) m (kmo m (mTs o, mPl o, mN o, mRp o, mAc o, z, mSm o, mSo o, mSw o, mRm o, mRf o))
section YH
variable {h : kx_H} {m : Nat} {o : MO} {F : Nat → Int32} {z : Int64}
theorem yH_o : yH h m o F z m = some (kmo m (mTs o, mPl o, mN o, mRp o, mAc o, z, mSm o, mSo o, mSw o, mRm o, mRf o)) := ku_s
theorem yH_t : yH h m o F z (m + 6) = some (ka 43 F) := (ku_n (by omega)).trans ku_s
theorem yH_k : yH h m o F z (m + 2) = h (m + 2) := (ku_n (by omega)).trans (ku_n (by omega))
theorem yH_F (F' : Nat → Int32) : kx_up (yH h m o F z) (m + 6) (ka 43 F') = yH h m o F' z := by
  unfold yH
  rw [ku_two _ _ _ (by omega : m ≠ m + 6), ku_ku]
theorem yH_z (z' : Int64) : kx_up (yH h m o F z) m (kmo m (mTs o, mPl o, mN o, mRp o, mAc o, z', mSm o, mSo o, mSw o, mRm o, mRf o)) = yH h m o F z' := ku_ku _ _ _ _
end YH
set_option maxRecDepth 20000 in
theorem yr_A {G : kx_G} {d N m n : Nat} {h : kx_H} {o : MO} {Kf F : Nat → Int32} {v : PU} {z : Int64} {y b e c p q : Int32} {res : kx_R} (o0 : h m = some (kmo m o)) (r2 : mN o = nI n) (k0 : h (m + 2) = some (ka 5 Kf)) (hk : ∀ j, j < n → Kf j = pKd v j) (hp : pgR F v) (hw : WF v n) (hd : 20 ≤ d) (K : kx_Ok mX5_years d 0 0 G 0 0 111 [(0, .ref m), (1, .int y), (2, .int c), (3, .int b), (4, .int e), (5, .int q), (6, .int p)] [] N (yH h m o (yF1 F v q) z) res) : kx_Ok mX5_years d 0 0 G 0 0 77 [(0, .ref m), (1, .int y), (2, .int c), (3, .int b), (4, .int e), (5, .int q), (6, .int p)] [] N (yH h m o F z) res := by
  have hn5 := hw.2.1
  by_cases h1 : hasI (nI n) q = true
  · obtain ⟨j, hq, rfl⟩ := has_of hn5 h1
    refine ko_aload_n (i := 0) dX5_years_77 rfl rfl ?_
    refine ko_iload (i := 5) dX5_years_78 rfl ?_
    refine ko_callVr lk_X5_108 dX5_years_80 (fn_noPerson (d := d - 1) yH_o r2 hn5 (by omega)) rfl rfl yH_o rfl rfl (by omega) (by omega) (by omega) (Nat.le_of_ble_eq_true rfl) ?_
    first | refine ko_ifb_ne (tgt := 111) dX5_years_83 (by decide) (fun c_83 => ?_) (fun c_83 => ?_) | refine ko_if_ne (tgt := 111) dX5_years_83 (by decide) (fun c_83 => ?_) (fun c_83 => ?_)
    · exact absurd c_83 (by rw [hasT hn5 hq]; decide)
    · refine ko_aload_n (i := 0) dX5_years_86 rfl rfl ?_
      refine ko_get fl_X5_25 dX5_years_87 yH_o rfl ?_
      refine ko_bipush (v := 15) dX5_years_90 (by decide) ?_
      refine ko_iald dX5_years_92 yH_t (in15 (i := 15) (by omega)) ?_
      refine ko_st (st' := [.int (F 15)]) rfl ?_
      rw [hp.2.2.2.1]
      refine ko_iload (i := 5) dX5_years_93 rfl ?_
      refine ko_callSr lk_X5_63 dX5_years_95 (fn_mhas (by omega)) rfl rfl (by omega) (by omega) (by omega) (Nat.le_of_ble_eq_true rfl) ?_
      first | refine ko_ifb_ne (tgt := 111) dX5_years_98 (by decide) (fun c_98 => ?_) (fun c_98 => ?_) | refine ko_if_ne (tgt := 111) dX5_years_98 (by decide) (fun c_98 => ?_) (fun c_98 => ?_)
      · first
          | (rw [show yF1 F v (nI j) = F from by unfold yF1; rw [if_pos (hasW hw hq), if_pos c_98]] at K; exact K)
          | (rw [show yF1 F v (nI j) = opF F j from by unfold yF1; rw [if_pos (hasW hw hq), if_neg (by rw [c_98]; decide), nI_clamp (by omega)]] at K; exact K)
      · refine ko_aload_n (i := 0) dX5_years_101 rfl rfl ?_
        refine ko_aload_n (i := 0) dX5_years_102 rfl rfl ?_
        refine ko_get fl_X5_25 dX5_years_103 yH_o rfl ?_
        refine ko_iload (i := 5) dX5_years_106 rfl ?_
        refine ko_callVv lk_X5_118 dX5_years_108 (fn_mopen (d := d - 1) (by omega) yH_t) rfl rfl yH_o rfl rfl (by omega) (by omega) (by omega) (Nat.le_of_ble_eq_true rfl) ?_
        refine ko_h (yH_F _) ?_
        first
          | (rw [show yF1 F v (nI j) = F from by unfold yF1; rw [if_pos (hasW hw hq), if_pos c_98]] at K; exact K)
          | (rw [show yF1 F v (nI j) = opF F j from by unfold yF1; rw [if_pos (hasW hw hq), if_neg (by rw [c_98]; decide), nI_clamp (by omega)]] at K; exact K)
  · refine ko_aload_n (i := 0) dX5_years_77 rfl rfl ?_
    refine ko_iload (i := 5) dX5_years_78 rfl ?_
    refine ko_callVr lk_X5_108 dX5_years_80 (fn_noPerson (d := d - 1) yH_o r2 hn5 (by omega)) rfl rfl yH_o rfl rfl (by omega) (by omega) (by omega) (Nat.le_of_ble_eq_true rfl) ?_
    first | refine ko_ifb_ne (tgt := 111) dX5_years_83 (by decide) (fun c_83 => ?_) (fun c_83 => ?_) | refine ko_if_ne (tgt := 111) dX5_years_83 (by decide) (fun c_83 => ?_) (fun c_83 => ?_)
    · rw [show yF1 F v q = F from by unfold yF1; rw [if_neg (fun z => h1 (by rw [hw.1] at z; exact z))]] at K
      exact K
    · exact absurd (show hasI (nI n) q = true by rw [Bool.not_eq_false'] at c_83; exact c_83) h1
set_option maxRecDepth 20000 in
theorem yr_B {G : kx_G} {d N m n : Nat} {h : kx_H} {o : MO} {Kf F : Nat → Int32} {v : PU} {z : Int64} {y b e c p q : Int32} {res : kx_R} (o0 : h m = some (kmo m o)) (r2 : mN o = nI n) (k0 : h (m + 2) = some (ka 5 Kf)) (hk : ∀ j, j < n → Kf j = pKd v j) (hp : pgR F v) (hw : WF v n) (hd : 20 ≤ d) (K : kx_Ok mX5_years d 0 0 G 0 0 160 [(0, .ref m), (1, .int y), (2, .int (if wfI v p q ≤ 0 then c else c + 1)), (3, .int b), (4, .int e), (5, .int q), (6, .int p)] [] N (yH h m o (yF2 F v p q) z) res) : kx_Ok mX5_years d 0 0 G 0 0 111 [(0, .ref m), (1, .int y), (2, .int c), (3, .int b), (4, .int e), (5, .int q), (6, .int p)] [] N (yH h m o F z) res := by
  have hn5 := hw.2.1
  refine ko_aload_n (i := 0) dX5_years_111 rfl rfl ?_
  refine ko_iload (i := 5) dX5_years_112 rfl ?_
  refine ko_callVr lk_X5_108 dX5_years_114 (fn_noPerson (d := d - 1) yH_o r2 hn5 (by omega)) rfl rfl yH_o rfl rfl (by omega) (by omega) (by omega) (Nat.le_of_ble_eq_true rfl) ?_
  first | refine ko_ifb_ne (tgt := 160) dX5_years_117 (by decide) (fun c_117 => ?_) (fun c_117 => ?_) | refine ko_if_ne (tgt := 160) dX5_years_117 (by decide) (fun c_117 => ?_) (fun c_117 => ?_)
  · have h8 : hasI (nI n) q = false := by
      rw [Bool.not_eq_true'] at c_117
      exact c_117
    have e2 : yF2 F v p q = F := by
      unfold yF2
      rw [hw.1, h8]
      rfl
    rw [e2, if_pos (wf_le0 hw (by rw [hw.1, h8]; rfl))] at K
    exact K
  · obtain ⟨j, hq, rfl⟩ := has_of hn5 (show hasI (nI n) q = true by rw [Bool.not_eq_false'] at c_117; exact c_117)
    refine ko_aload_n (i := 0) dX5_years_120 rfl rfl ?_
    refine ko_iload (i := 6) dX5_years_121 rfl ?_
    refine ko_callVr lk_X5_108 dX5_years_123 (fn_noPerson (d := d - 1) yH_o r2 hn5 (by omega)) rfl rfl yH_o rfl rfl (by omega) (by omega) (by omega) (Nat.le_of_ble_eq_true rfl) ?_
    first | refine ko_ifb_ne (tgt := 160) dX5_years_126 (by decide) (fun c_126 => ?_) (fun c_126 => ?_) | refine ko_if_ne (tgt := 160) dX5_years_126 (by decide) (fun c_126 => ?_) (fun c_126 => ?_)
    · have h8 : hasI (nI n) (nI j) = true := hasT hn5 hq
      have h9 : hasI (nI n) p = false := by
        rw [Bool.not_eq_true'] at c_126
        exact c_126
      have e2 : yF2 F v p (nI j) = F := by
        unfold yF2
        rw [hw.1, h8, h9]
        rfl
      rw [e2, if_pos (wf_le0 hw (by rw [hw.1, h8, h9]; rfl))] at K
      exact K
    · obtain ⟨i, hi, rfl⟩ := has_of hn5 (show hasI (nI n) p = true by rw [Bool.not_eq_false'] at c_126; exact c_126)
      refine ko_aload_n (i := 0) dX5_years_129 rfl rfl ?_
      refine ko_aload_n (i := 0) dX5_years_130 rfl rfl ?_
      refine ko_get fl_X5_25 dX5_years_131 yH_o rfl ?_
      refine ko_iload (i := 6) dX5_years_134 rfl ?_
      refine ko_iload (i := 5) dX5_years_136 rfl ?_
      refine ko_callVr lk_X5_105 dX5_years_138 (fn_mmayWeep (d := d - 1) yH_o (yH_k.trans k0) hk yH_t hp hw hi hq (by omega)) rfl rfl yH_o rfl rfl (by omega) (by omega) (by omega) (Nat.le_of_ble_eq_true rfl) ?_
      first | refine ko_ifb_eq (tgt := 160) dX5_years_141 (by decide) (fun c_141 => ?_) (fun c_141 => ?_) | refine ko_if_eq (tgt := 160) dX5_years_141 (by decide) (fun c_141 => ?_) (fun c_141 => ?_)
      · have e2 : yF2 F v (nI i) (nI j) = F := by
          unfold yF2
          rw [if_pos (hasW hw hq), if_pos (hasW hw hi), if_neg (by rw [c_141]; decide)]
        rw [e2, if_pos (wf_le0 hw (by rw [hasW hw hi, hasW hw hq, c_141]; rfl))] at K
        exact K
      · refine ko_aload_n (i := 0) dX5_years_144 rfl rfl ?_
        refine ko_aload_n (i := 0) dX5_years_145 rfl rfl ?_
        refine ko_get fl_X5_25 dX5_years_146 yH_o rfl ?_
        refine ko_iload (i := 6) dX5_years_149 rfl ?_
        refine ko_iload (i := 5) dX5_years_151 rfl ?_
        refine ko_callVr lk_X5_125 dX5_years_153 (fn_mgoWeep (d := d - 1) yH_o (yH_k.trans k0) hk hp hw hi hq (by omega) (by omega) yH_t) rfl rfl yH_o rfl rfl (by omega) (by omega) (by omega) (Nat.le_of_ble_eq_true rfl) ?_
        refine ko_h (yH_F _) ?_
        refine ko_pop dX5_years_156 rfl ?_
        refine ko_inc1 (i := 2) (lv' := [(0, _), (1, _), (2, _), (3, _), (4, _), (5, _), (6, _)]) dX5_years_157 rfl (by decide) rfl rfl rfl ?_
        have e2 : yF2 F v (nI i) (nI j) = gpF F i j (ozI v (nI i)) := by
          unfold yF2
          rw [if_pos (hasW hw hq), if_pos (hasW hw hi), if_pos c_141, nI_clamp (by omega), nI_clamp (by omega)]
        rw [e2, if_neg (wf_gt0 (hasW hw hi) c_141)] at K
        exact K
theorem yZ_s (sd : Int64) (k : Nat) : yZ sd (k + 1) = ySd (yZ sd k) := by rw [yZ]
set_option maxRecDepth 20000 in
theorem yr_S {G : kx_G} {d N m : Nat} {h : kx_H} {o : MO} {F : Nat → Int32} {z : Int64} {w1 w2 : Value} {w3 : Int32} {res : kx_R} (K : kx_Ok mX5_years d 0 0 G 0 0 49 [(0, .ref m), (1, w1), (2, w2), (3, .int w3)] [] N (yH h m o F (ySd z)) res) : kx_Ok mX5_years d 0 0 G 0 0 33 [(0, .ref m), (1, w1), (2, w2), (3, .int w3)] [] N (yH h m o F z) res := by
  refine ko_aload_n (i := 0) dX5_years_33 rfl rfl ?_
  refine ko_aload_n (i := 0) dX5_years_34 rfl rfl ?_
  refine ko_get fl_X5_186 dX5_years_35 yH_o rfl ?_
  refine ko_st (st' := [.long z, .ref m]) rfl ?_
  refine ko_ldc2 dX5_years_38 fc_X5_192 ?_
  refine ko_lmul dX5_years_41 ?_
  refine ko_ldc2 dX5_years_42 fc_X5_194 ?_
  refine ko_ladd dX5_years_45 ?_
  obtain ⟨Z9, hZ9⟩ : ∃ Z9, z * 6364136223846793005 + 1442695040888963407 = Z9 := ⟨_, rfl⟩
  rw [show ySd z = Z9 from hZ9] at K
  rw [hZ9]
  refine ko_put fl_X5_186 dX5_years_46 yH_o rfl rfl (Nat.le_of_ble_eq_true rfl) ?_
  refine ko_h (yH_z Z9) ?_
  exact K
set_option maxRecDepth 20000 in
theorem yr_T {G : kx_G} {d N m : Nat} {h : kx_H} {o : MO} {F : Nat → Int32} {z : Int64} {w1 w2 : Value} {w3 : Int32} {res : kx_R} (K : kx_Ok mX5_years d 0 0 G 0 0 77 [(0, .ref m), (1, w1), (2, w2), (3, .int w3), (4, .int (yLot z)), (5, .int (yQ z)), (6, .int (yP z))] [] N (yH h m o F z) res) : kx_Ok mX5_years d 0 0 G 0 0 49 [(0, .ref m), (1, w1), (2, w2), (3, .int w3)] [] N (yH h m o F z) res := by
  refine ko_aload_n (i := 0) dX5_years_49 rfl rfl ?_
  refine ko_get fl_X5_186 dX5_years_50 yH_o rfl ?_
  refine ko_st (st' := [.long z]) rfl ?_
  refine ko_bipush (v := 33) dX5_years_53 (by decide) ?_
  refine ko_lushr dX5_years_55 ?_
  refine ko_ldc2 dX5_years_56 fc_X5_196 ?_
  refine ko_lrem dX5_years_59 (by decide) ?_
  refine ko_l2i dX5_years_60 ?_
  refine ko_st (st' := [.int (yLot z)]) rfl ?_
  refine ko_istore (i := 4) (lv' := [(0, _), (1, _), (2, _), (3, _), (4, _)]) dX5_years_61 (by decide) rfl rfl rfl ?_
  refine ko_iload (i := 4) dX5_years_63 rfl ?_
  refine ko_bipush (v := 10) dX5_years_65 (by decide) ?_
  refine ko_idiv dX5_years_67 (by decide) ?_
  refine ko_st (st' := [.int (yQ z)]) rfl ?_
  refine ko_istore (i := 5) (lv' := [(0, _), (1, _), (2, _), (3, _), (4, _), (5, _)]) dX5_years_68 (by decide) rfl rfl rfl ?_
  refine ko_iload (i := 4) dX5_years_70 rfl ?_
  refine ko_bipush (v := 10) dX5_years_72 (by decide) ?_
  refine ko_irem dX5_years_74 (by decide) ?_
  refine ko_st (st' := [.int (yP z)]) rfl ?_
  refine ko_istore (i := 6) (lv' := [(0, _), (1, _), (2, _), (3, _), (4, _), (5, _), (6, _)]) dX5_years_75 (by decide) rfl rfl rfl ?_
  exact K
set_option maxRecDepth 20000 in
theorem yr_W {G : kx_G} {d N m n : Nat} {h : kx_H} {o : MO} {F : Nat → Int32} {z : Int64} {y c w3 e q p : Int32} {res : kx_R} (r2 : mN o = nI n) (hn5 : n ≤ 5) (hd : 20 ≤ d) (K : kx_Ok mX5_years d 0 0 G 0 0 28 [(0, .ref m), (1, .int y), (2, .int c), (3, .int (w3 + 1))] [] N (yH h m o (gwG F n) z) res) : kx_Ok mX5_years d 0 0 G 0 0 160 [(0, .ref m), (1, .int y), (2, .int c), (3, .int w3), (4, .int e), (5, .int q), (6, .int p)] [] N (yH h m o F z) res := by
  refine ko_aload_n (i := 0) dX5_years_160 rfl rfl ?_
  refine ko_aload_n (i := 0) dX5_years_161 rfl rfl ?_
  refine ko_get fl_X5_25 dX5_years_162 yH_o rfl ?_
  refine ko_callVv lk_X5_129 dX5_years_165 (fn_mgoWeek (d := d - 1) yH_o r2 hn5 yH_t) rfl rfl yH_o rfl rfl (by omega) (by omega) (by omega) (Nat.le_of_ble_eq_true rfl) ?_
  refine ko_h (yH_F _) ?_
  refine ko_inc1 (i := 3) (lv' := [(0, _), (1, _), (2, _), (3, _), (4, _), (5, _), (6, _)]) dX5_years_168 rfl (by decide) rfl rfl rfl ?_
  refine ko_goto (tgt := 28) dX5_years_171 (by decide) ?_
  exact ko_keep [0, 1, 2, 3] (lv' := [(0, _), (1, _), (2, _), (3, .int (w3 + 1))]) rfl K
set_option maxRecDepth 20000 in
theorem y_years0 {G : kx_G} {d N m : Nat} {h : kx_H} {T : Nat → Int32} {L : Nat} {u : PU} {n C : Nat} {Ac K : Nat → PU} {kf : Nat → Int32} {sd : Int64} {y : Int32} (ok : y < 1 ∨ ¬ y ≤ 20) (hM : kM h m T L u n C Ac K kf sd) (hw : WF u n) (hd : 20 ≤ d) : kx_Fn mX5_years d 0 0 G [.ref m, .int y] N h (some (.int (-2)), N, h) := by
  refine kx_Fn_of rfl (Nat.le_of_ble_eq_true rfl) rfl ?_ (kx_self)
  obtain ⟨o, Kf, f, tr, rp, rk, bk, kp, zk, va, hi9, r1, r2, r3, r4, r5, r6, r7, r8, r9, rC, rL⟩ := id hM
  obtain ⟨m0, m1, m2, m3, m4, m5, m6, m7, m8, m9, m10⟩ := id hi9
  have hn5 := hw.2.1
  obtain ⟨p1, p2, p3, p4, p5, p6, p7⟩ := id r6
  refine ko_aload_n (i := 0) dX5_years_0 rfl rfl ?_
  refine ko_iconst (v := 0) dX5_years_1 (by decide) ?_
  refine ko_put fl_X5_41 dX5_years_2 m0 rfl rfl (Nat.le_of_ble_eq_true rfl) ?_
  refine ko_h (ku_same m0) ?_
  refine ko_iload_n (i := 1) dX5_years_5 rfl rfl ?_
  refine ko_i2l dX5_years_6 ?_
  refine ko_lconst (v := 1) dX5_years_7 (by decide) ?_
  refine ko_ldc2 dX5_years_8 fc_X5_190 ?_
  refine ko_callSr lk_X5_48 dX5_years_11 (fn_in (d := d - 1) (v := y) (a := 1) (b := 20)) rfl rfl (by omega) (by omega) (by omega) (Nat.le_of_ble_eq_true rfl) ?_
  first | refine ko_ifb_ne (tgt := 20) dX5_years_14 (by decide) (fun c_14 => ?_) (fun c_14 => ?_) | refine ko_if_ne (tgt := 20) dX5_years_14 (by decide) (fun c_14 => ?_) (fun c_14 => ?_)
  · exact absurd c_14 (by rw [inR]; rcases ok with z | z <;> simp [z])
  · refine ko_bipush (v := (-2)) dX5_years_17 (by decide) ?_
    refine ko_iret dX5_years_19 rfl (Nat.le_of_ble_eq_true rfl) (Nat.le_of_ble_eq_true rfl) ?_
    rfl
set_option maxRecDepth 20000 in
theorem y_years1 {G : kx_G} {d N m : Nat} {h : kx_H} {T : Nat → Int32} {L : Nat} {u : PU} {n C : Nat} {Ac K : Nat → PU} {kf : Nat → Int32} {sd : Int64} {y : Nat} (hy : 1 ≤ y ∧ y ≤ 20)  (hM : kM h m T L u n C Ac K kf sd) (hw : WF u n) (hd : 20 ≤ d) : ∃ g, kx_Fn mX5_years d 0 0 G [.ref m, .int (nI y)] N h (some (.int (yC u n sd y)), N, g) ∧ kM g m T L u n C Ac K kf (yZ sd y) ∧ kFr h g m 10 := by
  obtain ⟨o, Kf, f, tr, rp, rk, bk, kp, zk, va, hi9, r1, r2, r3, r4, r5, r6, r7, r8, r9, rC, rL⟩ := id hM
  obtain ⟨m0, m1, m2, m3, m4, m5, m6, m7, m8, m9, m10⟩ := id hi9
  have hn5 := hw.2.1
  obtain ⟨p1, p2, p3, p4, p5, p6, p7⟩ := id r6
  have hy9 : inI (nI y) 1 20 = true := by
    rw [inR, decide_eq_false (show ¬ nI y < 1 from nI_nlt (a := y) (b := 1) (by omega) (by omega)), decide_eq_true (show nI y ≤ 20 from nI_le (a := y) (b := 20) (by omega) (by omega))]
    rfl
  have fr : kFr h (yH h m o (yF f u n sd y) (yZ sd y)) m 10 := (kFr.up (by omega)).tr (kFr.up (by omega))
  refine ⟨(yH h m o (yF f u n sd y) (yZ sd y)), kx_Fn_of rfl (Nat.le_of_ble_eq_true rfl) rfl ?_ (kM_dom hM fr), ⟨_, Kf, f, _, rp, rk, bk, kp, zk, va, kMi_o (kMi_tr hi9 _) _, r1, r2, r3, rfl, r5, r6, r7, r8, r9, rC, rL⟩, fr⟩
  · have LOOP : ∀ (k k9 : Nat), k + k9 = y → kx_Ok mX5_years d 0 0 G 0 0 28 [(0, .ref m), (1, .int (nI y)), (2, .int (yC u n sd k9)), (3, .int (nI k9))] [] N (yH h m o (yF f u n sd k9) (yZ sd k9)) (some (.int (yC u n sd y)), N, yH h m o (yF f u n sd y) (yZ sd y)) := by
      intro k
      induction k with
      | zero =>
        intro k9 hi
        obtain rfl : y = k9 := by omega
        refine ko_iload_n (i := 3) dX5_years_28 rfl rfl ?_
        refine ko_iload_n (i := 1) dX5_years_29 rfl rfl ?_
        refine ko_icmp_ge (tgt := 174) dX5_years_30 (by decide) (fun c_30 => ?_) (fun c_30 => ?_)
        · refine ko_iload_n (i := 2) dX5_years_174 rfl rfl ?_
          refine ko_iret dX5_years_175 rfl (Nat.le_of_ble_eq_true rfl) (Nat.le_of_ble_eq_true rfl) ?_
          rfl
        · exact absurd (show nI y ≤ nI y by rw [(rfl : nI y = nI y)]; exact nI_le (Nat.le_refl _) (by omega)) c_30
      | succ k ih =>
        intro k9 hi
        refine ko_iload_n (i := 3) dX5_years_28 rfl rfl ?_
        refine ko_iload_n (i := 1) dX5_years_29 rfl rfl ?_
        refine ko_icmp_ge (tgt := 174) dX5_years_30 (by decide) (fun c_30 => ?_) (fun c_30 => ?_)
        · exact absurd (show nI y ≤ nI k9 from by rw [← (rfl : nI y = nI y)]; exact c_30) (nI_ge (by omega) (by omega))
        · refine yr_S (yr_T ?_)
          rw [← yZ_s]
          obtain ⟨a1, a2⟩ := yF_R (sd := sd) r6 hw k9
          obtain ⟨b1, b2⟩ := yF1_R (q := yQ (yZ sd (k9 + 1))) a1 a2
          obtain ⟨e1, e2⟩ := yF2_R (p := yP (yZ sd (k9 + 1))) (q := yQ (yZ sd (k9 + 1))) b1 b2
          have kd0 : ∀ j, j < n → Kf j = pKd (yU u n sd k9) j := fun j hj => (r5 j hj).trans (congrFun (kd_yU u n sd k9).symm j)
          have kd1 : ∀ j, j < n → Kf j = pKd (brU (yU u n sd k9) (yQ (yZ sd (k9 + 1)))) j := fun j hj => (kd0 j hj).trans (congrFun (kd_br _ _).symm j)
          refine yr_A m0 r2 m2 kd0 a1 a2 hd (yr_B m0 r2 m2 kd1 b1 b2 hd ?_)
          refine yr_W r2 hn5 hd ?_
          have ei := ih (k9 + 1) (by omega)
          rw [nI_succ] at ei
          exact ei
    refine ko_aload_n (i := 0) dX5_years_0 rfl rfl ?_
    refine ko_iconst (v := 0) dX5_years_1 (by decide) ?_
    refine ko_put fl_X5_41 dX5_years_2 m0 rfl rfl (Nat.le_of_ble_eq_true rfl) ?_
    refine ko_h (ku_same m0) ?_
    refine ko_iload_n (i := 1) dX5_years_5 rfl rfl ?_
    refine ko_i2l dX5_years_6 ?_
    refine ko_lconst (v := 1) dX5_years_7 (by decide) ?_
    refine ko_ldc2 dX5_years_8 fc_X5_190 ?_
    refine ko_callSr lk_X5_48 dX5_years_11 (fn_in (d := d - 1) (v := nI y) (a := 1) (b := 20)) rfl rfl (by omega) (by omega) (by omega) (Nat.le_of_ble_eq_true rfl) ?_
    first | refine ko_ifb_ne (tgt := 20) dX5_years_14 (by decide) (fun c_14 => ?_) (fun c_14 => ?_) | refine ko_if_ne (tgt := 20) dX5_years_14 (by decide) (fun c_14 => ?_) (fun c_14 => ?_)
    · refine ko_aload_n (i := 0) dX5_years_20 rfl rfl ?_
      refine ko_callVv lk_X5_153 dX5_years_21 (fn_mbegin (d := d - 1) m0 m5 m6) rfl rfl m0 rfl rfl (by omega) (by omega) (by omega) (Nat.le_of_ble_eq_true rfl) ?_
      refine ko_h (h' := yH h m o f sd) (by unfold yH; rw [← r4]; exact (ku_same ((ku_n (by omega)).trans m0)).symm) ?_
      refine ko_iconst (v := 0) dX5_years_24 (by decide) ?_
      refine ko_istore_n (i := 2) (lv' := [(0, _), (1, _), (2, _)]) dX5_years_25 rfl (by decide) rfl rfl rfl ?_
      refine ko_iconst (v := 0) dX5_years_26 (by decide) ?_
      refine ko_istore_n (i := 3) (lv' := [(0, _), (1, _), (2, _), (3, _)]) dX5_years_27 rfl (by decide) rfl rfl rfl ?_
      exact LOOP y 0 (by omega)
    · exact absurd c_14 (by rw [hy9]; decide)
