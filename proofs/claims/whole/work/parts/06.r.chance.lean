/-! ===== the reference: chance ===== -/
def trV (u : PU) (i : Nat) : Nat → PU
  | 0 => u
  | p + 1 => if hbI (nI i) (nI p) = true then brU (trV u i p) (nI p) else trV u i p
def trF (f : Nat → Int32) (i : Nat) : Nat → (Nat → Int32)
  | 0 => f
  | p + 1 => if hbI (nI i) (nI p) = true then opF (trF f i p) p else trF f i p
theorem br_eq {u : PU} {n i : Nat} (hw : WF u n) (hi : i < n) (ho : hbI (pOp u) (nI i) = false) : brU u (nI i) = (upd (pSo u) i 9, upd (pAg u) i 0, u.2.2.1, u.2.2.2.1, u.2.2.2.2.1, u.2.2.2.2.2.1, pOp u ||| 1 <<< (nI i &&& 31), u.2.2.2.2.2.2.2) := by
  have hn5 := hw.2.1
  unfold brU
  rw [if_pos (hasW hw hi), if_neg (by rw [ho]; decide), nI_clamp (by omega)]
theorem trV_R {f : Nat → Int32} {u : PU} {n i : Nat} (hp : pgR f u) (hw : WF u n) (hi : ∀ j, j < n → hbI (nI i) (nI j) = true → hbI (pOp u) (nI j) = false) : ∀ p, p ≤ n → pgR (trF f i p) (trV u i p) ∧ WF (trV u i p) n ∧ pKd (trV u i p) = pKd u ∧ pKn (trV u i p) = pKn u ∧ pN (trV u i p) = pN u ∧ (∀ j, j < 5 → hbI (pOp (trV u i p)) (nI j) = (hbI (pOp u) (nI j) || (hbI (nI i) (nI j) && decide (j < p)))) ∧ (∀ j, hbI (nI i) (nI j) = false → pSo (trV u i p) j = pSo u j ∧ pAg (trV u i p) j = pAg u j)
  | 0, _ => ⟨hp, hw, rfl, rfl, rfl, fun j hj => by rw [trV, decide_eq_false (by omega), Bool.and_false, Bool.or_false], fun j _ => ⟨rfl, rfl⟩⟩
  | p + 1, h => by
    have hn5 := hw.2.1
    obtain ⟨a1, a2, a3, a4, a5, a6, a7⟩ := trV_R hp hw hi p (by omega)
    rw [trF, trV]
    cases hb : hbI (nI i) (nI p) with
    | false =>
      rw [if_neg (by decide), if_neg (by decide)]
      refine ⟨a1, a2, a3, a4, a5, fun j hj => ?_, a7⟩
      rw [a6 j hj]
      by_cases h1 : j = p
      · subst h1; rw [hb, Bool.false_and, Bool.false_and]
      · rw [show decide (j < p + 1) = decide (j < p) from by simp only [decide_eq_decide]; omega]
    | true =>
      rw [if_pos rfl, if_pos rfl]
      have ho : hbI (pOp (trV u i p)) (nI p) = false := by
        rw [a6 p (by omega), hi p (by omega) hb, decide_eq_false (Nat.lt_irrefl p), Bool.and_false, Bool.or_false]
      have e := br_eq a2 (show p < n by omega) ho
      refine ⟨opF_R a1 a2 (by omega) ho, WF_br a2 (by omega), by rw [kd_br]; exact a3, by rw [e]; exact a4, by rw [pN_br]; exact a5, fun j hj => ?_, fun j hj => ?_⟩
      · rw [e]
        show hbI (pOp (trV u i p) ||| 1 <<< (nI p &&& 31)) (nI j) = _
        rw [hb_or _ _ j hj, hb_one p (by omega) j hj, a6 j hj]
        by_cases h1 : j = p
        · subst h1; rw [hb, decide_eq_true rfl, decide_eq_true (Nat.lt_succ_self j)]; simp
        · rw [decide_eq_false (Ne.symm h1), Bool.or_false, show decide (j < p + 1) = decide (j < p) from by simp only [decide_eq_decide]; omega]
      · have hjp : j ≠ p := fun z => by rw [z, hb] at hj; cases hj
        rw [e]
        exact ⟨(pk_un hjp).trans (a7 j hj).1, (pk_un hjp).trans (a7 j hj).2⟩
theorem oz_same {u v : PU} {n q : Nat} (hw : WF u n) (hq : q < n) (h1 : pN v = pN u) (h2 : pKd v = pKd u) (h3 : pSo v q = pSo u q) (h4 : pAg v q = pAg u q) : ozI v (nI q) = ozI u (nI q) := by
  have hn5 := hw.2.1
  unfold ozI
  rw [nI_clamp (by omega), h1, h2, h3, h4]
theorem ark_same {u v : PU} {p q : Int32} (h1 : pN v = pN u) (h2 : pKn v = pKn u) : arkI v p q = arkI u p q := by
  unfold arkI
  rw [h1, h2]
theorem serve_tr {f : Nat → Int32} {u : PU} {n i : Nat} (hp : pgR f u) (hw : WF u n) (hi5 : i < 32) (hi : ∀ j, j < n → hbI (nI i) (nI j) = true → hbI (pOp u) (nI j) = false) (hin : ∀ j, j < 5 → hbI (nI i) (nI j) = true → j < n) : pOp (trV u i n) = pOp u ||| nI i ∧ blk (trV u i n) n (evI (nI n)) n 0 0 0 0 (Mk (trV u i n) n n) (Mk (trV u i n) n n) (pOp (trV u i n), -9, 9999, 0) = seU u (pOp u ||| nI i) (evI (pN u) &&& ((pOp u ||| nI i) ^^^ (-1))) := by
  have hn5 := hw.2.1
  obtain ⟨a1, a2, a3, a4, a5, a6, a7⟩ := trV_R hp hw hi n (Nat.le_refl n)
  have eop : pOp (trV u i n) = pOp u ||| nI i := hb_ext (lo_W a2).1 (lo_or (lo_W hw).1 ⟨i, hi5, rfl⟩) (fun j hj => by
    rw [a6 j hj, hb_or _ _ j hj]
    cases h1 : hbI (nI i) (nI j) with
    | false => rfl
    | true => rw [decide_eq_true (hin j hj h1)]; simp)
  refine ⟨eop, ?_⟩
  rw [serve_eq (f0 := evI (pN u) &&& ((pOp u ||| nI i) ^^^ (-1))) hw a2 (fun p hp1 q hq hop => ?_) (fun p hp1 h1 => ?_), eop]
  · rw [hb_and _ _ p (by omega), hb_not _ p (by omega), ← eop, hw.1]
    unfold mayI
    rw [hop]
    cases h1 : hbI (pOp (trV u i n)) (nI p) with
    | true => simp
    | false =>
      have h2 : hbI (nI i) (nI p) = false := by
        rw [a6 p (by omega), decide_eq_true hp1] at h1
        cases h3 : hbI (nI i) (nI p)
        · rfl
        · rw [h3] at h1; simp at h1
      have h4 : fitI (trV u i n) (nI p) (nI q) = fitI u (nI p) (nI q) := by
        unfold fitI
        rw [oz_same hw hp1 a5 a3 (a7 p h2).1 (a7 p h2).2, ark_same a5 a4]
      rw [h4]
      simp
  · rw [hb_and _ _ p (by omega), hb_not _ p (by omega), ← eop, Bool.and_eq_true, Bool.not_eq_true', a6 p (by omega), decide_eq_true hp1] at h1
    have h2 : hbI (nI i) (nI p) = false := by
      cases h3 : hbI (nI i) (nI p)
      · rfl
      · rw [h3] at h1; simp at h1
    exact oz_same hw hp1 a5 a3 (a7 p h2).1 (a7 p h2).2
def byI (x : Int32) (U i : Nat) : Nat → Int32
  | 0 => 1
  | p + 1 => if hbI (nI U) (nI p) = true then byI x U i p * (if hbI (nI i) (nI p) = true then x else 10 - x) else byI x U i p
def caU (Q : Int32 → SU) (op x : Int32) (n U : Nat) : Nat → Int32
  | 0 => 0
  | i + 1 => if ¬ sbI (nI i) (nI U) = 0 then caU Q op x n U i else caU Q op x n U i + (if (Q (op ||| nI i)).2.1 = bcI (op ||| nI i) then byI x U i n else 0)
def caL (x : Int32) (n U : Nat) : Nat → Int32
  | 0 => 0
  | i + 1 => if ¬ sbI (nI i) (nI U) = 0 then caL x n U i else caL x n U i + byI x U i n
def caF (f tr : Nat → Int32) (n U : Nat) : Nat → (Nat → Int32)
  | 0 => tr
  | i + 1 => if ¬ sbI (nI i) (nI U) = 0 then caF f tr n U i else trF f i n
def caT (Q : Int32 → SU) (op : Int32) (U : Nat) (s : SU) : Nat → SU
  | 0 => s
  | i + 1 => if ¬ sbI (nI i) (nI U) = 0 then caT Q op U s i else Q (op ||| nI i)
set_option maxRecDepth 20000 in
theorem ch_P {G : kx_G} {d N m n : Nat} {h : kx_H} {o : MO} {f : Nat → Int32} {up : Bool} {x c4 c5 : Int32} {U i : Nat} {s : SU} {res : kx_R} (r2 : mN o = nI n) (hn5 : n ≤ 5) (hd : 20 ≤ d) (K : kx_Ok mX5_chance d 0 0 G 0 0 136 [(0, .ref m), (1, .int x), (2, .int (kb up)), (3, .int (nI U)), (4, .int c4), (5, .int c5), (6, .int (nI i)), (7, .int (byI x U i n))] [] N (fH (kx_up h (m + 6) (ka 43 (trF f i n))) m o s) res) : kx_Ok mX5_chance d 0 0 G 0 0 69 [(0, .ref m), (1, .int x), (2, .int (kb up)), (3, .int (nI U)), (4, .int c4), (5, .int c5), (6, .int (nI i)), (7, .int 1), (8, .int 0)] [] N (fH (kx_up h (m + 6) (ka 43 f)) m o s) res := by
  have LOOP : ∀ (k p : Nat), k + p = n → kx_Ok mX5_chance d 0 0 G 0 0 69 [(0, .ref m), (1, .int x), (2, .int (kb up)), (3, .int (nI U)), (4, .int c4), (5, .int c5), (6, .int (nI i)), (7, .int (byI x U i p)), (8, .int (nI p))] [] N (fH (kx_up h (m + 6) (ka 43 (trF f i p))) m o s) res := by
    intro k
    induction k with
    | zero =>
      intro p hi
      obtain rfl : n = p := by omega
      refine ko_iload (i := 8) dX5_chance_69 rfl ?_
      refine ko_aload_n (i := 0) dX5_chance_71 rfl rfl ?_
      refine ko_get fl_X5_45 dX5_chance_72 fH_o rfl ?_
      refine ko_icmp_ge (tgt := 136) dX5_chance_75 (by decide) (fun c_75 => ?_) (fun c_75 => ?_)
      · refine ko_keep [0, 1, 2, 3, 4, 5, 6, 7] rfl K
      · exact absurd (show mN o ≤ nI n by rw [r2]; exact nI_le (Nat.le_refl _) (by omega)) c_75
    | succ k ih =>
      intro p hi
      refine ko_iload (i := 8) dX5_chance_69 rfl ?_
      refine ko_aload_n (i := 0) dX5_chance_71 rfl rfl ?_
      refine ko_get fl_X5_45 dX5_chance_72 fH_o rfl ?_
      refine ko_icmp_ge (tgt := 136) dX5_chance_75 (by decide) (fun c_75 => ?_) (fun c_75 => ?_)
      · exact absurd (show nI n ≤ nI p from by rw [← r2]; exact c_75) (nI_ge (by omega) (by omega))
      · refine ko_iload_n (i := 3) dX5_chance_78 rfl rfl ?_
        refine ko_iload (i := 8) dX5_chance_79 rfl ?_
        refine ko_callSr lk_X5_63 dX5_chance_81 (fn_mhas (by omega)) rfl rfl (by omega) (by omega) (by omega) (Nat.le_of_ble_eq_true rfl) ?_
        first | refine ko_ifb_eq (tgt := 110) dX5_chance_84 (by decide) (fun c_84 => ?_) (fun c_84 => ?_) | refine ko_if_eq (tgt := 110) dX5_chance_84 (by decide) (fun c_84 => ?_) (fun c_84 => ?_)
        · have k84 := c_84
          refine ko_iload (i := 6) dX5_chance_110 rfl ?_
          refine ko_iload (i := 8) dX5_chance_112 rfl ?_
          refine ko_callSr lk_X5_63 dX5_chance_114 (fn_mhas (by omega)) rfl rfl (by omega) (by omega) (by omega) (Nat.le_of_ble_eq_true rfl) ?_
          first | refine ko_ifb_eq (tgt := 130) dX5_chance_117 (by decide) (fun c_117 => ?_) (fun c_117 => ?_) | refine ko_if_eq (tgt := 130) dX5_chance_117 (by decide) (fun c_117 => ?_) (fun c_117 => ?_)
          · have k117 := c_117
            refine ko_inc1 (i := 8) (lv' := [(0, _), (1, _), (2, _), (3, _), (4, _), (5, _), (6, _), (7, _), (8, _)]) dX5_chance_130 rfl (by decide) rfl rfl rfl ?_
            refine ko_goto (tgt := 69) dX5_chance_133 (by decide) ?_
            first
              | exact absurd (c_96.symm.trans c_117) (by decide)
              | (have ei := ih (p + 1) (by omega)
                 simp only [trF, byI, c_75, c_84, c_117, if_true, if_false, Bool.false_eq_true, nI_succ] at ei
                 exact ei)
          · have k117 := c_117
            refine ko_aload_n (i := 0) dX5_chance_120 rfl rfl ?_
            refine ko_aload_n (i := 0) dX5_chance_121 rfl rfl ?_
            refine ko_get fl_X5_25 dX5_chance_122 fH_o rfl ?_
            refine ko_iload (i := 8) dX5_chance_125 rfl ?_
            refine ko_callVv lk_X5_118 dX5_chance_127 (fn_mopen (d := d - 1) (by omega) ((fH_n (by omega)).trans ku_s)) rfl rfl fH_o rfl rfl (by omega) (by omega) (by omega) (Nat.le_of_ble_eq_true rfl) ?_
            refine ko_h (fH_up (by omega)) ?_
            refine ko_inc1 (i := 8) (lv' := [(0, _), (1, _), (2, _), (3, _), (4, _), (5, _), (6, _), (7, _), (8, _)]) dX5_chance_130 rfl (by decide) rfl rfl rfl ?_
            refine ko_goto (tgt := 69) dX5_chance_133 (by decide) ?_
            first
              | exact absurd (c_96.symm.trans c_117) (by decide)
              | (have ei := ih (p + 1) (by omega)
                 simp only [trF, byI, c_75, c_84, c_117, if_true, if_false, Bool.false_eq_true, nI_succ] at ei
                 exact ei)
        · have k84 := c_84
          refine ko_iload (i := 7) dX5_chance_87 rfl ?_
          refine ko_iload (i := 6) dX5_chance_89 rfl ?_
          refine ko_iload (i := 8) dX5_chance_91 rfl ?_
          refine ko_callSr lk_X5_63 dX5_chance_93 (fn_mhas (by omega)) rfl rfl (by omega) (by omega) (by omega) (Nat.le_of_ble_eq_true rfl) ?_
          first | refine ko_ifb_eq (tgt := 103) dX5_chance_96 (by decide) (fun c_96 => ?_) (fun c_96 => ?_) | refine ko_if_eq (tgt := 103) dX5_chance_96 (by decide) (fun c_96 => ?_) (fun c_96 => ?_)
          · have k96 := c_96
            refine ko_bipush (v := 10) dX5_chance_103 (by decide) ?_
            refine ko_iload_n (i := 1) dX5_chance_105 rfl rfl ?_
            refine ko_isub dX5_chance_106 ?_
            refine ko_imul dX5_chance_107 ?_
            refine ko_istore (i := 7) (lv' := [(0, _), (1, _), (2, _), (3, _), (4, _), (5, _), (6, _), (7, _), (8, _)]) dX5_chance_108 (by decide) rfl rfl rfl ?_
            refine ko_iload (i := 6) dX5_chance_110 rfl ?_
            refine ko_iload (i := 8) dX5_chance_112 rfl ?_
            refine ko_callSr lk_X5_63 dX5_chance_114 (fn_mhas (by omega)) rfl rfl (by omega) (by omega) (by omega) (Nat.le_of_ble_eq_true rfl) ?_
            first | refine ko_ifb_eq (tgt := 130) dX5_chance_117 (by decide) (fun c_117 => ?_) (fun c_117 => ?_) | refine ko_if_eq (tgt := 130) dX5_chance_117 (by decide) (fun c_117 => ?_) (fun c_117 => ?_)
            · have k117 := c_117
              refine ko_inc1 (i := 8) (lv' := [(0, _), (1, _), (2, _), (3, _), (4, _), (5, _), (6, _), (7, _), (8, _)]) dX5_chance_130 rfl (by decide) rfl rfl rfl ?_
              refine ko_goto (tgt := 69) dX5_chance_133 (by decide) ?_
              first
                | exact absurd (c_96.symm.trans c_117) (by decide)
                | (have ei := ih (p + 1) (by omega)
                   simp only [trF, byI, c_75, c_84, c_96, c_117, if_true, if_false, Bool.false_eq_true, nI_succ] at ei
                   exact ei)
            · have k117 := c_117
              refine ko_aload_n (i := 0) dX5_chance_120 rfl rfl ?_
              refine ko_aload_n (i := 0) dX5_chance_121 rfl rfl ?_
              refine ko_get fl_X5_25 dX5_chance_122 fH_o rfl ?_
              refine ko_iload (i := 8) dX5_chance_125 rfl ?_
              refine ko_callVv lk_X5_118 dX5_chance_127 (fn_mopen (d := d - 1) (by omega) ((fH_n (by omega)).trans ku_s)) rfl rfl fH_o rfl rfl (by omega) (by omega) (by omega) (Nat.le_of_ble_eq_true rfl) ?_
              refine ko_h (fH_up (by omega)) ?_
              refine ko_inc1 (i := 8) (lv' := [(0, _), (1, _), (2, _), (3, _), (4, _), (5, _), (6, _), (7, _), (8, _)]) dX5_chance_130 rfl (by decide) rfl rfl rfl ?_
              refine ko_goto (tgt := 69) dX5_chance_133 (by decide) ?_
              first
                | exact absurd (c_96.symm.trans c_117) (by decide)
                | (have ei := ih (p + 1) (by omega)
                   simp only [trF, byI, c_75, c_84, c_96, c_117, if_true, if_false, Bool.false_eq_true, nI_succ] at ei
                   exact ei)
          · have k96 := c_96
            refine ko_iload_n (i := 1) dX5_chance_99 rfl rfl ?_
            refine ko_goto (tgt := 107) dX5_chance_100 (by decide) ?_
            refine ko_imul dX5_chance_107 ?_
            refine ko_istore (i := 7) (lv' := [(0, _), (1, _), (2, _), (3, _), (4, _), (5, _), (6, _), (7, _), (8, _)]) dX5_chance_108 (by decide) rfl rfl rfl ?_
            refine ko_iload (i := 6) dX5_chance_110 rfl ?_
            refine ko_iload (i := 8) dX5_chance_112 rfl ?_
            refine ko_callSr lk_X5_63 dX5_chance_114 (fn_mhas (by omega)) rfl rfl (by omega) (by omega) (by omega) (Nat.le_of_ble_eq_true rfl) ?_
            first | refine ko_ifb_eq (tgt := 130) dX5_chance_117 (by decide) (fun c_117 => ?_) (fun c_117 => ?_) | refine ko_if_eq (tgt := 130) dX5_chance_117 (by decide) (fun c_117 => ?_) (fun c_117 => ?_)
            · have k117 := c_117
              refine ko_inc1 (i := 8) (lv' := [(0, _), (1, _), (2, _), (3, _), (4, _), (5, _), (6, _), (7, _), (8, _)]) dX5_chance_130 rfl (by decide) rfl rfl rfl ?_
              refine ko_goto (tgt := 69) dX5_chance_133 (by decide) ?_
              first
                | exact absurd (c_96.symm.trans c_117) (by decide)
                | (have ei := ih (p + 1) (by omega)
                   simp only [trF, byI, c_75, c_84, c_96, c_117, if_true, if_false, Bool.false_eq_true, nI_succ] at ei
                   exact ei)
            · have k117 := c_117
              refine ko_aload_n (i := 0) dX5_chance_120 rfl rfl ?_
              refine ko_aload_n (i := 0) dX5_chance_121 rfl rfl ?_
              refine ko_get fl_X5_25 dX5_chance_122 fH_o rfl ?_
              refine ko_iload (i := 8) dX5_chance_125 rfl ?_
              refine ko_callVv lk_X5_118 dX5_chance_127 (fn_mopen (d := d - 1) (by omega) ((fH_n (by omega)).trans ku_s)) rfl rfl fH_o rfl rfl (by omega) (by omega) (by omega) (Nat.le_of_ble_eq_true rfl) ?_
              refine ko_h (fH_up (by omega)) ?_
              refine ko_inc1 (i := 8) (lv' := [(0, _), (1, _), (2, _), (3, _), (4, _), (5, _), (6, _), (7, _), (8, _)]) dX5_chance_130 rfl (by decide) rfl rfl rfl ?_
              refine ko_goto (tgt := 69) dX5_chance_133 (by decide) ?_
              first
                | exact absurd (c_96.symm.trans c_117) (by decide)
                | (have ei := ih (p + 1) (by omega)
                   simp only [trF, byI, c_75, c_84, c_96, c_117, if_true, if_false, Bool.false_eq_true, nI_succ] at ei
                   exact ei)
  exact LOOP n 0 (by omega)
set_option maxRecDepth 20000 in
theorem ch_F {G : kx_G} {d N m n : Nat} {h : kx_H} {o : MO} {Kf F : Nat → Int32} {v : PU} {up : Bool} {x c4 c5 : Int32} {U i : Nat} {s : SU} {res : kx_R} {S : SU} {c7 : Int32} (r2 : mN o = nI n) (k0 : h (m + 2) = some (ka 5 Kf)) (hk : ∀ j, j < n → Kf j = pKd v j) (hp : pgR F v) (hw : WF v n) (hd : 20 ≤ d) (hQ : blk v n (evI (nI n)) n 0 0 0 0 (Mk v n n) (Mk v n n) (pOp v, -9, 9999, 0) = S) (K : kx_Ok mX5_chance d 0 0 G 0 0 183 [(0, .ref m), (1, .int x), (2, .int (kb up)), (3, .int (nI U)), (4, .int (c4 + if S.2.1 = bcI (pOp v) then c7 else 0)), (5, .int (c5 + c7)), (6, .int (nI i))] [] N (fH (kx_up h (m + 6) (ka 43 F)) m o S) res) : kx_Ok mX5_chance d 0 0 G 0 0 136 [(0, .ref m), (1, .int x), (2, .int (kb up)), (3, .int (nI U)), (4, .int c4), (5, .int c5), (6, .int (nI i)), (7, .int c7)] [] N (fH (kx_up h (m + 6) (ka 43 F)) m o s) res := by
  refine ko_aload_n (i := 0) dX5_chance_136 rfl rfl ?_
  refine ko_aload_n (i := 0) dX5_chance_137 rfl rfl ?_
  refine ko_get fl_X5_25 dX5_chance_138 fH_o rfl ?_
  refine ko_aload_n (i := 0) dX5_chance_141 rfl rfl ?_
  refine ko_callVr lk_X5_147 dX5_chance_142 (fn_meveryone (n := n) (d := d - 1) fH_o) rfl rfl fH_o rfl rfl (by omega) (by omega) (by omega) (Nat.le_of_ble_eq_true rfl) ?_
  refine ko_st (st' := [.int (evI (nI n)), .ref (m + 6), .ref m]) (congrArg (fun z => [Value.int (evI z), .ref (m + 6), .ref m]) r2) ?_
  refine ko_callVv lk_X5_150 dX5_chance_145 (fn_findServed (d := d - 1) (bY := evI (nI n)) fH_o r2 ((fH_n (by omega)).trans ((ku_n (by omega)).trans k0)) hk ((fH_n (by omega)).trans ku_s) (by omega) hp hw (by omega) rfl) rfl rfl fH_o rfl rfl (by omega) (by omega) (by omega) (Nat.le_of_ble_eq_true rfl) ?_
  rw [hQ]
  refine ko_h fH_fH ?_
  refine ko_iload (i := 5) dX5_chance_148 rfl ?_
  refine ko_iload (i := 7) dX5_chance_150 rfl ?_
  refine ko_iadd dX5_chance_152 ?_
  refine ko_istore (i := 5) (lv' := [(0, _), (1, _), (2, _), (3, _), (4, _), (5, _), (6, _), (7, _)]) dX5_chance_153 (by decide) rfl rfl rfl ?_
  refine ko_iload (i := 4) dX5_chance_155 rfl ?_
  refine ko_aload_n (i := 0) dX5_chance_157 rfl rfl ?_
  refine ko_get fl_X5_133 dX5_chance_158 fH_o rfl ?_
  refine ko_st (st' := [.int S.2.1, .int c4]) rfl ?_
  refine ko_aload_n (i := 0) dX5_chance_161 rfl rfl ?_
  refine ko_get fl_X5_25 dX5_chance_162 fH_o rfl ?_
  refine ko_bipush (v := 15) dX5_chance_165 (by decide) ?_
  refine ko_iald dX5_chance_167 ((fH_n (by omega)).trans ku_s) (in15 (i := 15) (by omega)) ?_
  refine ko_st (st' := [.int (F 15), .int S.2.1, .int c4]) rfl ?_
  rw [hp.2.2.2.1]
  refine ko_callSr lk_X5_122 dX5_chance_168 (fn_many (d := d - 1)) rfl rfl (by omega) (by omega) (by omega) (Nat.le_of_ble_eq_true rfl) ?_
  rw [(mn_W hw).1]
  refine ko_icmp_ne (tgt := 179) dX5_chance_171 (by decide) (fun c_171 => ?_) (fun c_171 => ?_)
  · have c_171 : ¬ S.2.1 = bcI (pOp v) := c_171
    refine ko_iconst (v := 0) dX5_chance_179 (by decide) ?_
    refine ko_iadd dX5_chance_180 ?_
    refine ko_istore (i := 4) (lv' := [(0, _), (1, _), (2, _), (3, _), (4, _), (5, _), (6, _), (7, _)]) dX5_chance_181 (by decide) rfl rfl rfl ?_
    first
      | (rw [if_pos c_171] at K; exact ko_keep [0, 1, 2, 3, 4, 5, 6] rfl K)
      | (rw [if_neg c_171] at K; exact ko_keep [0, 1, 2, 3, 4, 5, 6] rfl K)
  · have c_171 : S.2.1 = bcI (pOp v) := c_171
    refine ko_iload (i := 7) dX5_chance_174 rfl ?_
    refine ko_goto (tgt := 180) dX5_chance_176 (by decide) ?_
    refine ko_iadd dX5_chance_180 ?_
    refine ko_istore (i := 4) (lv' := [(0, _), (1, _), (2, _), (3, _), (4, _), (5, _), (6, _), (7, _)]) dX5_chance_181 (by decide) rfl rfl rfl ?_
    first
      | (rw [if_pos c_171] at K; exact ko_keep [0, 1, 2, 3, 4, 5, 6] rfl K)
      | (rw [if_neg c_171] at K; exact ko_keep [0, 1, 2, 3, 4, 5, 6] rfl K)
set_option maxRecDepth 20000 in
theorem ch_B {G : kx_G} {d N m : Nat} {h : kx_H} {o : MO} {F f : Nat → Int32} {up : Bool} {x c4 c5 : Int32} {U i : Nat} {s : SU} {res : kx_R} (t5 : h (m + 5) = some (ka 43 f)) (hd : 20 ≤ d) (K : kx_Ok mX5_chance d 0 0 G 0 0 69 [(0, .ref m), (1, .int x), (2, .int (kb up)), (3, .int (nI U)), (4, .int c4), (5, .int c5), (6, .int (nI i)), (7, .int 1), (8, .int 0)] [] N (fH (kx_up h (m + 6) (ka 43 f)) m o s) res) : kx_Ok mX5_chance d 0 0 G 0 0 59 [(0, .ref m), (1, .int x), (2, .int (kb up)), (3, .int (nI U)), (4, .int c4), (5, .int c5), (6, .int (nI i))] [] N (fH (kx_up h (m + 6) (ka 43 F)) m o s) res := by
  refine ko_iconst (v := 1) dX5_chance_59 (by decide) ?_
  refine ko_istore (i := 7) (lv' := [(0, _), (1, _), (2, _), (3, _), (4, _), (5, _), (6, _), (7, _)]) dX5_chance_60 (by decide) rfl rfl rfl ?_
  refine ko_aload_n (i := 0) dX5_chance_62 rfl rfl ?_
  refine ko_callVv lk_X5_153 dX5_chance_63 (fn_mbegin (d := d - 1) fH_o ((fH_n (by omega)).trans ((ku_n (by omega)).trans t5)) ((fH_n (by omega)).trans ku_s)) rfl rfl fH_o rfl rfl (by omega) (by omega) (by omega) (Nat.le_of_ble_eq_true rfl) ?_
  refine ko_h (fH_up (by omega)) ?_
  refine ko_iconst (v := 0) dX5_chance_66 (by decide) ?_
  refine ko_istore (i := 8) (lv' := [(0, _), (1, _), (2, _), (3, _), (4, _), (5, _), (6, _), (7, _), (8, _)]) dX5_chance_67 (by decide) rfl rfl rfl ?_
  exact K
set_option maxRecDepth 20000 in
theorem ch_L {G : kx_G} {d N m n : Nat} {h : kx_H} {o : MO} {Kf f tr : Nat → Int32} {u : PU} {up : Bool} {x : Int32} {U : Nat} {s : SU} {Q : Int32 → SU} {res : kx_R} (r2 : mN o = nI n) (k0 : h (m + 2) = some (ka 5 Kf)) (hk : ∀ j, j < n → Kf j = pKd u j) (t5 : h (m + 5) = some (ka 43 f)) (hp : pgR f u) (hw : WF u n) (hd : 20 ≤ d) (hU0 : U < 2 ^ n) (eU : unbI u = nI U) (hQ : ∀ op, seU u op (evI (pN u) &&& (op ^^^ (-1))) = Q op) (K : kx_Ok mX5_chance d 0 0 G 0 0 189 [(0, .ref m), (1, .int x), (2, .int (kb up)), (3, .int (nI U)), (4, .int (caU Q (pOp u) x n U (U + 1))), (5, .int (caL x n U (U + 1)))] [] N (fH (kx_up h (m + 6) (ka 43 (caF f tr n U (U + 1)))) m o (caT Q (pOp u) U s (U + 1))) res) : kx_Ok mX5_chance d 0 0 G 0 0 44 [(0, .ref m), (1, .int x), (2, .int (kb up)), (3, .int (nI U)), (4, .int 0), (5, .int 0), (6, .int 0)] [] N (fH (kx_up h (m + 6) (ka 43 tr)) m o s) res := by
  have hn5 := hw.2.1
  have hU : U < 32 := lt32 hU0 hn5
  have LOOP : ∀ (k i : Nat), k + i = (U + 1) → kx_Ok mX5_chance d 0 0 G 0 0 44 [(0, .ref m), (1, .int x), (2, .int (kb up)), (3, .int (nI U)), (4, .int (caU Q (pOp u) x n U i)), (5, .int (caL x n U i)), (6, .int (nI i))] [] N (fH (kx_up h (m + 6) (ka 43 (caF f tr n U i))) m o (caT Q (pOp u) U s i)) res := by
    intro k
    induction k with
    | zero =>
      intro i hi
      obtain rfl : i = (U + 1) := by omega
      refine ko_iload (i := 6) dX5_chance_44 rfl ?_
      refine ko_iload_n (i := 3) dX5_chance_46 rfl rfl ?_
      refine ko_icmp_gt (tgt := 189) dX5_chance_47 (by decide) (fun c_47 => ?_) (fun c_47 => ?_)
      · exact ko_keep [0, 1, 2, 3, 4, 5] rfl K
      · exact absurd (show nI U < nI (U + 1) from nI_lt (by omega) (by omega)) c_47
    | succ k ih =>
      intro i hi
      refine ko_iload (i := 6) dX5_chance_44 rfl ?_
      refine ko_iload_n (i := 3) dX5_chance_46 rfl rfl ?_
      refine ko_icmp_gt (tgt := 189) dX5_chance_47 (by decide) (fun c_47 => ?_) (fun c_47 => ?_)
      · exact absurd (show nI U < nI i from c_47) (nI_nlt (by omega) (by omega))
      · refine ko_iload (i := 6) dX5_chance_50 rfl ?_
        refine ko_iload_n (i := 3) dX5_chance_52 rfl rfl ?_
        refine ko_iconst (v := (-1)) dX5_chance_53 (by decide) ?_
        refine ko_ixor dX5_chance_54 ?_
        refine ko_iand dX5_chance_55 ?_
        refine ko_st (st' := [.int (sbI (nI i) (nI U))]) rfl ?_
        refine ko_if_ne (tgt := 183) dX5_chance_56 (by decide) (fun c_56 => ?_) (fun c_56 => ?_)
        · refine ko_inc1 (i := 6) (lv' := [(0, _), (1, _), (2, _), (3, _), (4, _), (5, _), (6, _)]) dX5_chance_183 rfl (by decide) rfl rfl rfl ?_
          refine ko_goto (tgt := 44) dX5_chance_186 (by decide) ?_
          have ei := ih (i + 1) (by omega)
          rw [caU, caL, caF, caT, if_pos (show ¬ sbI (nI i) (nI U) = 0 from c_56), if_pos (show ¬ sbI (nI i) (nI U) = 0 from c_56), if_pos (show ¬ sbI (nI i) (nI U) = 0 from c_56), if_pos (show ¬ sbI (nI i) (nI U) = 0 from c_56), nI_succ] at ei
          exact ei
        · have hsub : ∀ j, j < n → hbI (nI i) (nI j) = true → hbI (pOp u) (nI j) = false := fun j hj h1 => by
            have h2 := sb_hb i (by omega) U hU c_56 j (by omega) h1
            rw [← eU, ← unb_bit hw hj, Bool.and_eq_true, Bool.not_eq_true'] at h2
            exact h2.2
          have hin : ∀ j, j < 5 → hbI (nI i) (nI j) = true → j < n := fun j hj h1 => by
            have h2 := sb_hb i (by omega) U hU c_56 j hj h1
            rcases Nat.lt_or_ge j n with q | q
            · exact q
            · rw [hb_out hU0 hn5 q hj] at h2; exact absurd h2 (by decide)
          obtain ⟨a1, a2, a3, a4, a5, a6, a7⟩ := trV_R hp hw hsub n (Nat.le_refl n)
          obtain ⟨e1, e2⟩ := serve_tr hp hw (show i < 32 by omega) hsub hin
          rw [hQ] at e2
          refine ch_B t5 hd (ch_P r2 hn5 hd (ch_F r2 k0 (fun j hj => (hk j hj).trans (congrFun a3.symm j)) a1 a2 hd e2 ?_))
          rw [e1]
          refine ko_inc1 (i := 6) (lv' := [(0, _), (1, _), (2, _), (3, _), (4, _), (5, _), (6, _)]) dX5_chance_183 rfl (by decide) rfl rfl rfl ?_
          refine ko_goto (tgt := 44) dX5_chance_186 (by decide) ?_
          have ei := ih (i + 1) (by omega)
          rw [caU, caL, caF, caT, if_neg (show ¬ ¬ sbI (nI i) (nI U) = 0 from fun z => z c_56), if_neg (show ¬ ¬ sbI (nI i) (nI U) = 0 from fun z => z c_56), if_neg (show ¬ ¬ sbI (nI i) (nI U) = 0 from fun z => z c_56), if_neg (show ¬ ¬ sbI (nI i) (nI U) = 0 from fun z => z c_56), nI_succ] at ei
          exact ei
  exact LOOP (U + 1) 0 (by omega)
def btN (U p : Nat) : Bool := decide (U / 2 ^ p % 2 = 1)
theorem bt_hb : ∀ U, U < 32 → ∀ p, p < 5 → hbI (nI U) (nI p) = btN U p := by decide +kernel
def byN (x U i : Nat) : Nat → Nat
  | 0 => 1
  | p + 1 => if btN U p = true then byN x U i p * (if btN i p = true then x else 10 - x) else byN x U i p
theorem by_N {x U i : Nat} (hx : x ≤ 10) (hU : U < 32) (hi : i < 32) : ∀ p, p ≤ 5 → byI (nI x) U i p = nI (byN x U i p)
  | 0, _ => rfl
  | p + 1, h => by
    rw [byI, byN, by_N hx hU hi p (by omega), bt_hb U hU p (by omega), bt_hb i hi p (by omega), show (10 : Int32) - nI x = nI (10 - x) from pk_sub (a := 10) hx]
    split
    · split
      · rw [pk_mul]
      · rw [pk_mul]
    · rfl
theorem by_n {x U i n : Nat} (hU : U < 2 ^ n) (hn : n ≤ 5) : ∀ k, n + k ≤ 5 → byN x U i (n + k) = byN x U i n
  | 0, _ => rfl
  | k + 1, h => by
    show byN x U i (n + k + 1) = _
    have h1 := hb_out (j := n + k) hU hn (by omega) (by omega)
    rw [bt_hb U (lt32 hU hn) (n + k) (by omega)] at h1
    rw [byN, h1, if_neg (by decide)]
    exact by_n hU hn k (by omega)
theorem by_pc : ∀ U, U < 32 → ∀ i, i < 32 → sbI (nI i) (nI U) = 0 → ∀ x, x < 11 → byN x U i 5 = x ^ pcN i * (10 - x) ^ (pcN U - pcN i) := by decide +kernel
def caN (x U : Nat) : Nat → Nat
  | 0 => 0
  | i + 1 => if ¬ sbI (nI i) (nI U) = 0 then caN x U i else caN x U i + byN x U i 5
theorem ca_10 : ∀ U, U < 32 → ∀ x, x < 11 → caN x U (U + 1) = 10 ^ pcN U := by decide +kernel
def chN (Q : Int32 → SU) (op : Int32) (x U : Nat) : Nat → Nat
  | 0 => 0
  | i + 1 => if ¬ sbI (nI i) (nI U) = 0 then chN Q op x U i else chN Q op x U i + (if (Q (op ||| nI i)).2.1 = bcI (op ||| nI i) then byN x U i 5 else 0)
theorem ch_le (Q : Int32 → SU) (op : Int32) (x U : Nat) : ∀ i, chN Q op x U i ≤ caN x U i
  | 0 => Nat.le_refl _
  | i + 1 => by
    have h := ch_le Q op x U i
    rw [chN, caN]
    split
    · exact h
    · split
      · exact Nat.add_le_add_right h _
      · exact Nat.le_trans h (Nat.le_add_right _ _)
theorem ca_N {Q : Int32 → SU} {op : Int32} {x U n : Nat} (hx : x ≤ 10) (hU0 : U < 2 ^ n) (hn : n ≤ 5) : ∀ i, i ≤ 32 → caU Q op (nI x) n U i = nI (chN Q op x U i) ∧ caL (nI x) n U i = nI (caN x U i) ∧ chA Q op (nI x) U i = nI (chN Q op x U i)
  | 0, _ => ⟨rfl, rfl, rfl⟩
  | i + 1, h => by
    obtain ⟨e1, e2, e3⟩ := ca_N (Q := Q) (op := op) hx hU0 hn i (by omega)
    have hU := lt32 hU0 hn
    have e5 : byI (nI x) U i n = nI (byN x U i 5) := by
      rw [by_N hx hU (by omega) n hn, ← by_n (x := x) (i := i) hU0 hn (5 - n) (by omega), show n + (5 - n) = 5 by omega]
    rw [caU, caL, chA, chN, caN, e1, e2, e3, e5]
    by_cases h1 : sbI (nI i) (nI U) = 0
    · have h9 : ¬ ¬ sbI (nI i) (nI U) = 0 := fun z => z h1
      rw [if_neg h9, if_neg h9, if_neg h9, if_neg h9, if_neg h9]
      have e6 : poI (nI x) (pcN i) * poI (10 - nI x) (pcN U - pcN i) = nI (byN x U i 5) := by
        rw [show (10 : Int32) - nI x = nI (10 - x) from pk_sub (a := 10) hx, po_pow, po_pow, pk_mul, by_pc U hU i (by omega) h1 x (by omega)]
      rw [e6]
      by_cases h2 : (Q (op ||| nI i)).2.1 = bcI (op ||| nI i)
      · rw [if_pos h2, if_pos h2, decide_eq_true h2, if_neg (by decide), nI_add, nI_add]
        exact ⟨rfl, rfl, rfl⟩
      · rw [if_neg h2, if_neg h2, decide_eq_false h2, if_pos rfl, nI_add, Nat.add_zero]
        exact ⟨Int32.add_zero _, rfl, rfl⟩
    · rw [if_pos h1, if_pos h1, if_pos h1, if_pos h1, if_pos h1]
      exact ⟨rfl, rfl, rfl⟩
theorem pow_pc : ∀ U, U < 32 → 10 ^ pcN U ≤ 100000 ∧ 0 < 10 ^ pcN U := by decide +kernel
set_option maxRecDepth 20000 in
theorem ch_E {G : kx_G} {d N m : Nat} {h : kx_H} {up : Bool} {a b : Nat} {w1 w3 : Value} {res : kx_R} (hd : 20 ≤ d) (ha : a < 2 ^ 31) (hb : b < 2 ^ 31) (hb0 : 0 < b) (he : res = (some (.int ((if up = true then nI a else nI b) / nI (Nat.gcd b a))), N, h)) : kx_Ok mX5_chance d 0 0 G 0 0 189 [(0, .ref m), (1, w1), (2, .int (kb up)), (3, w3), (4, .int (nI a)), (5, .int (nI b))] [] N h res := by
  refine ko_iload (i := 4) dX5_chance_189 rfl ?_
  refine ko_iload (i := 5) dX5_chance_191 rfl ?_
  refine ko_iload_n (i := 2) dX5_chance_193 rfl rfl ?_
  refine ko_callSr lk_X5_162 dX5_chance_194 (fn_mfraction (d := d - 1) (a := a) (b := b) ha hb hb0 (by omega)) rfl rfl (by omega) (by omega) (by omega) (Nat.le_of_ble_eq_true rfl) ?_
  refine ko_iret dX5_chance_197 rfl (Nat.le_of_ble_eq_true rfl) (Nat.le_of_ble_eq_true rfl) ?_
  rw [he]
set_option maxRecDepth 20000 in
theorem y_chance0 {G : kx_G} {d N m : Nat} {h : kx_H} {T : Nat → Int32} {L : Nat} {u : PU} {n C : Nat} {Ac K : Nat → PU} {kf : Nat → Int32} {sd : Int64} {y : Int32} {up : Bool} (ok : y < 0 ∨ ¬ y ≤ 10) (hM : kM h m T L u n C Ac K kf sd) (hw : WF u n) (hd : 20 ≤ d) : kx_Fn mX5_chance d 0 0 G [.ref m, .int y, .int (kb up)] N h (some (.int (-2)), N, h) := by
  refine kx_Fn_of rfl (Nat.le_of_ble_eq_true rfl) rfl ?_ (kx_self)
  obtain ⟨o, Kf, f, tr, rp, rk, bk, kp, zk, va, hi9, r1, r2, r3, r4, r5, r6, r7, r8, r9, rC, rL⟩ := id hM
  obtain ⟨m0, m1, m2, m3, m4, m5, m6, m7, m8, m9, m10⟩ := id hi9
  have hn5 := hw.2.1
  obtain ⟨p1, p2, p3, p4, p5, p6, p7⟩ := id r6
  refine ko_aload_n (i := 0) dX5_chance_0 rfl rfl ?_
  refine ko_iconst (v := 0) dX5_chance_1 (by decide) ?_
  refine ko_put fl_X5_41 dX5_chance_2 m0 rfl rfl (Nat.le_of_ble_eq_true rfl) ?_
  refine ko_h (ku_same m0) ?_
  refine ko_iload_n (i := 1) dX5_chance_5 rfl rfl ?_
  refine ko_i2l dX5_chance_6 ?_
  refine ko_lconst (v := 0) dX5_chance_7 (by decide) ?_
  refine ko_ldc2 dX5_chance_8 fc_X5_184 ?_
  refine ko_callSr lk_X5_48 dX5_chance_11 (fn_in (d := d - 1) (v := y) (a := 0) (b := 10)) rfl rfl (by omega) (by omega) (by omega) (Nat.le_of_ble_eq_true rfl) ?_
  first | refine ko_ifb_ne (tgt := 20) dX5_chance_14 (by decide) (fun c_14 => ?_) (fun c_14 => ?_) | refine ko_if_ne (tgt := 20) dX5_chance_14 (by decide) (fun c_14 => ?_) (fun c_14 => ?_)
  · exact absurd c_14 (by rw [inR]; rcases ok with z | z <;> simp [z])
  · refine ko_bipush (v := (-2)) dX5_chance_17 (by decide) ?_
    refine ko_iret dX5_chance_19 rfl (Nat.le_of_ble_eq_true rfl) (Nat.le_of_ble_eq_true rfl) ?_
    rfl
set_option maxRecDepth 20000 in
theorem y_chance1 {G : kx_G} {d N m : Nat} {h : kx_H} {T : Nat → Int32} {L : Nat} {u : PU} {n C : Nat} {Ac K : Nat → PU} {kf : Nat → Int32} {sd : Int64} {x U : Nat} {up : Bool} {Q : Int32 → SU} (hx : x ≤ 10) (hQ : ∀ op, seU u op (evI (pN u) &&& (op ^^^ (-1))) = Q op) (eU : unbI u = nI U) (hU0 : U < 2 ^ n)  (hM : kM h m T L u n C Ac K kf sd) (hw : WF u n) (hd : 20 ≤ d) : ∃ g, kx_Fn mX5_chance d 0 0 G [.ref m, .int (nI x), .int (kb up)] N h (some (.int (frI (chA Q (pOp u) (nI x) U (U + 1)) (poI 10 (pcN U)) up)), N, g) ∧ kM g m T L u n C Ac K kf sd ∧ kFr h g m 10 := by
  obtain ⟨o, Kf, f, tr, rp, rk, bk, kp, zk, va, hi9, r1, r2, r3, r4, r5, r6, r7, r8, r9, rC, rL⟩ := id hM
  obtain ⟨m0, m1, m2, m3, m4, m5, m6, m7, m8, m9, m10⟩ := id hi9
  have hn5 := hw.2.1
  obtain ⟨p1, p2, p3, p4, p5, p6, p7⟩ := id r6
  have hU : U < 32 := lt32 hU0 hn5
  have fr : kFr h (fH (kx_up h (m + 6) (ka 43 (caF f tr n U (U + 1)))) m o (caT Q (pOp u) U (0, mSm o, mSo o, mSw o) (U + 1))) m 10 := (kFr.up (by omega)).tr (kFr.up (by omega))
  refine ⟨(fH (kx_up h (m + 6) (ka 43 (caF f tr n U (U + 1)))) m o (caT Q (pOp u) U (0, mSm o, mSo o, mSw o) (U + 1))), kx_Fn_of rfl (Nat.le_of_ble_eq_true rfl) rfl ?_ (kM_dom hM fr), ⟨_, Kf, f, _, rp, rk, bk, kp, zk, va, kMi_o (kMi_tr hi9 _) _, r1, r2, r3, r4, r5, r6, r7, r8, r9, rC, rL⟩, fr⟩
  · refine ko_aload_n (i := 0) dX5_chance_0 rfl rfl ?_
    refine ko_iconst (v := 0) dX5_chance_1 (by decide) ?_
    refine ko_put fl_X5_41 dX5_chance_2 m0 rfl rfl (Nat.le_of_ble_eq_true rfl) ?_
    refine ko_h (ku_same m0) ?_
    refine ko_iload_n (i := 1) dX5_chance_5 rfl rfl ?_
    refine ko_i2l dX5_chance_6 ?_
    refine ko_lconst (v := 0) dX5_chance_7 (by decide) ?_
    refine ko_ldc2 dX5_chance_8 fc_X5_184 ?_
    refine ko_callSr lk_X5_48 dX5_chance_11 (fn_in (d := d - 1) (v := nI x) (a := 0) (b := 10)) rfl rfl (by omega) (by omega) (by omega) (Nat.le_of_ble_eq_true rfl) ?_
    first | refine ko_ifb_ne (tgt := 20) dX5_chance_14 (by decide) (fun c_14 => ?_) (fun c_14 => ?_) | refine ko_if_ne (tgt := 20) dX5_chance_14 (by decide) (fun c_14 => ?_) (fun c_14 => ?_)
    · refine ko_aload_n (i := 0) dX5_chance_20 rfl rfl ?_
      refine ko_callVr lk_X5_147 dX5_chance_21 (fn_meveryone (n := n) (d := d - 1) m0) rfl rfl m0 rfl rfl (by omega) (by omega) (by omega) (Nat.le_of_ble_eq_true rfl) ?_
      refine ko_aload_n (i := 0) dX5_chance_24 rfl rfl ?_
      refine ko_get fl_X5_22 dX5_chance_25 m0 rfl ?_
      refine ko_bipush (v := 15) dX5_chance_28 (by decide) ?_
      refine ko_iald dX5_chance_30 m5 (in15 (i := 15) (by omega)) ?_
      refine ko_st (st' := [.int (f 15), .int (evI (nI n))]) (congrArg (fun z => [Value.int (f 15), .int (evI z)]) r2) ?_
      rw [p4]
      refine ko_iconst (v := (-1)) dX5_chance_31 (by decide) ?_
      refine ko_ixor dX5_chance_32 ?_
      refine ko_iand dX5_chance_33 ?_
      rw [show evI (nI n) &&& (pOp u ^^^ -1) = nI U from by rw [← eU, ← hw.1]; rfl]
      refine ko_istore_n (i := 3) (lv' := [(0, _), (1, _), (2, _), (3, _)]) dX5_chance_34 rfl (by decide) rfl rfl rfl ?_
      refine ko_iconst (v := 0) dX5_chance_35 (by decide) ?_
      refine ko_istore (i := 4) (lv' := [(0, _), (1, _), (2, _), (3, _), (4, _)]) dX5_chance_36 (by decide) rfl rfl rfl ?_
      refine ko_iconst (v := 0) dX5_chance_38 (by decide) ?_
      refine ko_istore (i := 5) (lv' := [(0, _), (1, _), (2, _), (3, _), (4, _), (5, _)]) dX5_chance_39 (by decide) rfl rfl rfl ?_
      refine ko_iconst (v := 0) dX5_chance_41 (by decide) ?_
      refine ko_istore (i := 6) (lv' := [(0, _), (1, _), (2, _), (3, _), (4, _), (5, _), (6, _)]) dX5_chance_42 (by decide) rfl rfl rfl ?_
      refine ko_h (fH_self (h := h) m0).symm ?_
      refine ko_h (congrArg (fun z => fH z m o (0, mSm o, mSo o, mSw o)) (ku_same m6).symm) ?_
      refine ch_L (tr := tr) (Q := Q) r2 m2 r5 m5 r6 hw hd hU0 eU hQ ?_
      obtain ⟨e1, e2, e3⟩ := ca_N (Q := Q) (op := pOp u) (show x ≤ 10 by omega) hU0 hn5 (U + 1) (by omega)
      rw [e1, e2, ca_10 U hU x (by omega)]
      have h10 := pow_pc U hU
      have hle := ch_le Q (pOp u) x U (U + 1)
      rw [ca_10 U hU x (by omega)] at hle
      refine ch_E hd (by omega) (by omega) h10.2 ?_
      rw [e3, show poI 10 (pcN U) = nI (10 ^ pcN U) from po_pow 10 (pcN U), frI_eq2 (by omega) (by omega) h10.2]
    · exact absurd c_14 (by rw [inR, decide_eq_false (nI_pos (n := x) (by omega)), decide_eq_true (show nI x ≤ 10 from nI_le (a := x) (b := 10) (by omega) (by omega))]; decide)
