/-! ===== the reference: rings, what is weighed ===== -/
theorem in_sb0 : ∀ n, n < 6 → ∀ k, k < 32 → (sbI (nI k) (evI (nI n)) = 0 ↔ k < 2 ^ n) := by decide +kernel
theorem in_sb {n : Nat} (hn : n ≤ 5) (x : Int32) : inI x 0 (evI (nI n)) = decide (sbI x (evI (nI n)) = 0) := by
  have e9 := (lo_ev0 n (by omega)).1
  have h32 : 2 ^ n ≤ 32 := Nat.pow_le_pow_right (n := 2) (by omega) hn
  have hp : 0 < 2 ^ n := Nat.two_pow_pos n
  rw [Bool.eq_iff_iff, inR, Bool.and_eq_true, Bool.not_eq_true', decide_eq_false_iff_not, decide_eq_true_eq, decide_eq_true_eq]
  constructor
  · rintro ⟨h1, h2⟩
    rw [e9] at h2
    obtain ⟨k, hk, rfl⟩ := nI_of2 (nI_toInt (by omega)) h1 h2
    exact (in_sb0 n (by omega) k (by omega)).mpr (by omega)
  · intro h
    have e1 : x = x &&& evI (nI n) := by
      have e2 : (x &&& evI (nI n)) ||| sbI x (evI (nI n)) = x := by
        unfold sbI
        apply Int32.toBitVec_inj.mp
        rw [Int32.toBitVec_or, Int32.toBitVec_and, Int32.toBitVec_and, Int32.toBitVec_xor]
        apply BitVec.eq_of_getLsbD_eq
        intro i hi
        have e3 : (-1 : Int32).toBitVec.getLsbD i = true := by
          rw [show (-1 : Int32).toBitVec = BitVec.allOnes 32 from rfl, BitVec.getLsbD_allOnes]
          exact decide_eq_true hi
        rw [BitVec.getLsbD_or, BitVec.getLsbD_and, BitVec.getLsbD_and, BitVec.getLsbD_xor, e3]
        cases x.toBitVec.getLsbD i <;> cases (evI (nI n)).toBitVec.getLsbD i <;> rfl
      rw [h, or0] at e2
      exact e2.symm
    have e4 : (evI (nI n)).toBitVec.toNat = 2 ^ n - 1 := by rw [e9, pk_tn (by omega)]
    rw [pk_and x n e4] at e1
    have hm := Nat.mod_lt x.toBitVec.toNat hp
    rw [e1, e9]
    exact ⟨nI_pos (by omega), nI_le (by omega) (by omega)⟩
theorem wd_B {u : PU} {n : Nat} {pe sum w : Int32} (hw : WF u n) : wdB u pe sum w = (inI pe 0 (evI (nI n)) && (inI sum 0 45 && inI w 0 2)) := by
  rw [in_sb hw.2.1, inR w]
  unfold wdB inI
  rw [hw.1]
  cases decide (sbI pe (evI (nI n)) = 0) <;> cases decide (sum < 0) <;> cases decide (45 < sum) <;> cases decide (w < 0) <;> cases decide (w ≤ 2) <;> rfl
theorem wd_in {u : PU} {n : Nat} {pe sum w : Int32} (hw : WF u n) (ok : wdB u pe sum w = true) : ∃ m, m < 32 ∧ pe = nI m := by
  rw [wd_B hw, Bool.and_eq_true, inR, Bool.and_eq_true, Bool.not_eq_true', decide_eq_false_iff_not, decide_eq_true_eq] at ok
  have hn := hw.2.1
  have h32 : 2 ^ n ≤ 32 := Nat.pow_le_pow_right (n := 2) (by omega) hn
  have hp : 0 < 2 ^ n := Nat.two_pow_pos n
  have h2 := ok.1.2
  rw [(lo_ev0 n (by omega)).1] at h2
  obtain ⟨k, hk, rfl⟩ := nI_of2 (nI_toInt (by omega)) ok.1.1 h2
  exact ⟨k, by omega, rfl⟩
def wmI (u : PU) (pe us : Int32) : Nat → Int32
  | 0 => 0
  | i + 1 => wmI u pe us i + (if hbI pe (nI i) = true then if hbI us (nI i) = true then 2 else ozI u (nI i) else 0)
theorem sb_hb : ∀ i, i < 32 → ∀ m, m < 32 → sbI (nI i) (nI m) = 0 → ∀ j, j < 5 → hbI (nI i) (nI j) = true → hbI (nI m) (nI j) = true := by decide +kernel
theorem wm_eq {u : PU} {s m : Nat} (hs : s < 32) (hm : m < 32) (h : sbI (nI s) (nI m) = 0) : ∀ i, i ≤ 5 → wmI u (nI m) (nI s) i = wgI u (nI m) (nI s) i
  | 0, _ => rfl
  | i + 1, hi => by
    unfold wmI wgI
    rw [wm_eq hs hm h i (by omega)]
    have key := sb_hb s hs m hm h i (by omega)
    cases h1 : hbI (nI s) (nI i)
    · cases h2 : hbI (nI m) (nI i)
      · simp
      · simp
    · rw [key h1]
      simp
set_option maxRecDepth 20000 in
theorem y_ring {G : kx_G} {d N m : Nat} {h : kx_H} {T : Nat → Int32} {L : Nat} {u : PU} {n C : Nat} {Ac K : Nat → PU} {kf : Nat → Int32} {sd : Int64}  (hM : kM h m T L u n C Ac K kf sd) (hw : WF u n) (hd : 20 ≤ d) : kx_Fn mX5_ring d 0 0 G [.ref m] N h (some (.int (riI u n)), N, h) := by
  refine kx_Fn_of rfl (Nat.le_of_ble_eq_true rfl) rfl ?_ (kx_self)
  obtain ⟨o, Kf, f, tr, rp, rk, bk, kp, zk, va, hi9, r1, r2, r3, r4, r5, r6, r7, r8, r9, rC, rL⟩ := id hM
  obtain ⟨m0, m1, m2, m3, m4, m5, m6, m7, m8, m9, m10⟩ := id hi9
  have hn5 := hw.2.1
  obtain ⟨p1, p2, p3, p4, p5, p6, p7⟩ := id r6
  have e1 : ∀ i j, i < n → j < n → dbI u (nI i) (nI j) = pOw u (i * 5 + j) := fun i j hi hj => by
    unfold dbI
    rw [if_pos (hasW hw hi), if_pos (hasW hw hj), (in25 (hasW hw hi) (hasW hw hj)).2, nI_clamp (by omega), nI_clamp (by omega)]
  have LOOP : ∀ (k p : Nat), k + p = n → kx_Ok mX5_ring d 0 0 G 0 0 9 [(0, .ref m), (1, .int (stI (fun p => hbI (rg3 u n p n) (nI p)) p)), (2, .int (nI p))] [] N h (some (.int (stI (fun p => hbI (rg3 u n p n) (nI p)) n)), N, h) := by
    intro k
    induction k with
    | zero =>
      intro p hi
      obtain rfl : n = p := by omega
      refine ko_iload_n (i := 2) dX5_ring_9 rfl rfl ?_
      refine ko_aload_n (i := 0) dX5_ring_10 rfl rfl ?_
      refine ko_get fl_X5_45 dX5_ring_11 m0 rfl ?_
      refine ko_icmp_ge (tgt := 153) dX5_ring_14 (by decide) (fun c_14 => ?_) (fun c_14 => ?_)
      · refine ko_iload_n (i := 1) dX5_ring_153 rfl rfl ?_
        refine ko_iret dX5_ring_154 rfl (Nat.le_of_ble_eq_true rfl) (Nat.le_of_ble_eq_true rfl) ?_
        rfl
      · exact absurd (show mN o ≤ nI n by rw [r2]; exact nI_le (Nat.le_refl _) (by omega)) c_14
    | succ k ih =>
      intro p hi
      have LK : ∀ (kk9 k9 : Nat), kk9 + k9 = n → kx_Ok mX5_ring d 0 0 G 0 0 22 [(0, .ref m), (1, .int (stI (fun p => hbI (rg3 u n p n) (nI p)) p)), (2, .int (nI p)), (3, .int (rg3 u n p k9)), (4, .int (nI k9))] [] N h (some (.int (stI (fun p => hbI (rg3 u n p n) (nI p)) n)), N, h) := by
        intro kk9
        induction kk9 with
        | zero =>
          intro k9 hi
          obtain rfl : n = k9 := by omega
          refine ko_iload (i := 4) dX5_ring_22 rfl ?_
          refine ko_aload_n (i := 0) dX5_ring_24 rfl rfl ?_
          refine ko_get fl_X5_45 dX5_ring_25 m0 rfl ?_
          refine ko_icmp_ge (tgt := 129) dX5_ring_28 (by decide) (fun c_28 => ?_) (fun c_28 => ?_)
          · refine ko_iload_n (i := 1) dX5_ring_129 rfl rfl ?_
            refine ko_iload_n (i := 3) dX5_ring_130 rfl rfl ?_
            refine ko_iload_n (i := 2) dX5_ring_131 rfl rfl ?_
            refine ko_callSr lk_X5_63 dX5_ring_132 (fn_mhas (by omega)) rfl rfl (by omega) (by omega) (by omega) (Nat.le_of_ble_eq_true rfl) ?_
            first | refine ko_ifb_eq (tgt := 144) dX5_ring_135 (by decide) (fun c_135 => ?_) (fun c_135 => ?_) | refine ko_if_eq (tgt := 144) dX5_ring_135 (by decide) (fun c_135 => ?_) (fun c_135 => ?_)
            · refine ko_iconst (v := 0) dX5_ring_144 (by decide) ?_
              refine ko_ior dX5_ring_145 ?_
              refine ko_istore_n (i := 1) (lv' := [(0, _), (1, _), (2, _), (3, _), (4, _)]) dX5_ring_146 rfl (by decide) rfl rfl rfl ?_
              refine ko_inc1 (i := 2) (lv' := [(0, _), (1, _), (2, _), (3, _), (4, _)]) dX5_ring_147 rfl (by decide) rfl rfl rfl ?_
              refine ko_goto (tgt := 9) dX5_ring_150 (by decide) ?_
              exact ko_keep [0, 1, 2] (lv' := [(0, _), (1, _), (2, .int (nI p + 1))]) rfl (ko_lv (by simp [stI, nI_succ, c_28, c_135]) (ih (p + 1) (by omega)))
            · refine ko_iconst (v := 1) dX5_ring_138 (by decide) ?_
              refine ko_iload_n (i := 2) dX5_ring_139 rfl rfl ?_
              refine ko_ishl dX5_ring_140 ?_
              refine ko_goto (tgt := 145) dX5_ring_141 (by decide) ?_
              refine ko_ior dX5_ring_145 ?_
              refine ko_istore_n (i := 1) (lv' := [(0, _), (1, _), (2, _), (3, _), (4, _)]) dX5_ring_146 rfl (by decide) rfl rfl rfl ?_
              refine ko_inc1 (i := 2) (lv' := [(0, _), (1, _), (2, _), (3, _), (4, _)]) dX5_ring_147 rfl (by decide) rfl rfl rfl ?_
              refine ko_goto (tgt := 9) dX5_ring_150 (by decide) ?_
              exact ko_keep [0, 1, 2] (lv' := [(0, _), (1, _), (2, .int (nI p + 1))]) rfl (ko_lv (by simp [stI, nI_succ, c_28, c_135]) (ih (p + 1) (by omega)))
          · exact absurd (show mN o ≤ nI n by rw [r2]; exact nI_le (Nat.le_refl _) (by omega)) c_28
        | succ kk9 ihk =>
          intro k9 hi
          have LA : ∀ (ka9 a : Nat), ka9 + a = n → kx_Ok mX5_ring d 0 0 G 0 0 34 [(0, .ref m), (1, .int (stI (fun p => hbI (rg3 u n p n) (nI p)) p)), (2, .int (nI p)), (3, .int (rg2 u n p (rg3 u n p k9) a)), (4, .int (nI k9)), (5, .int (nI a))] [] N h (some (.int (stI (fun p => hbI (rg3 u n p n) (nI p)) n)), N, h) := by
            intro ka9
            induction ka9 with
            | zero =>
              intro a hi
              obtain rfl : n = a := by omega
              refine ko_iload (i := 5) dX5_ring_34 rfl ?_
              refine ko_aload_n (i := 0) dX5_ring_36 rfl rfl ?_
              refine ko_get fl_X5_45 dX5_ring_37 m0 rfl ?_
              refine ko_icmp_ge (tgt := 123) dX5_ring_40 (by decide) (fun c_40 => ?_) (fun c_40 => ?_)
              · refine ko_inc1 (i := 4) (lv' := [(0, _), (1, _), (2, _), (3, _), (4, _), (5, _)]) dX5_ring_123 rfl (by decide) rfl rfl rfl ?_
                refine ko_goto (tgt := 22) dX5_ring_126 (by decide) ?_
                refine ko_keep [0, 1, 2, 3, 4] (lv' := [(0, _), (1, _), (2, _), (3, _), (4, .int (nI k9 + 1))]) rfl ?_
                exact ko_lv (by simp [rg3, nI_succ]) (ihk (k9 + 1) (by omega))
              · exact absurd (show mN o ≤ nI n by rw [r2]; exact nI_le (Nat.le_refl _) (by omega)) c_40
            | succ ka9 iha =>
              intro a hi
              have LBT : (rgF p a (rg2 u n p (rg3 u n p k9) a)) = true → kx_Ok mX5_ring d 0 0 G 0 0 68 [(0, .ref m), (1, .int (stI (fun p => hbI (rg3 u n p n) (nI p)) p)), (2, .int (nI p)), (3, .int (rg2 u n p (rg3 u n p k9) a)), (4, .int (nI k9)), (5, .int (nI a)), (6, .int 1), (7, .int (nI 0))] [] N h (some (.int (stI (fun p => hbI (rg3 u n p n) (nI p)) n)), N, h) := by
                intro hfr
                have LB : ∀ (kb9 b : Nat), kb9 + b = n → kx_Ok mX5_ring d 0 0 G 0 0 68 [(0, .ref m), (1, .int (stI (fun p => hbI (rg3 u n p n) (nI p)) p)), (2, .int (nI p)), (3, .int (rg1 u a true (rg2 u n p (rg3 u n p k9) a) b)), (4, .int (nI k9)), (5, .int (nI a)), (6, .int 1), (7, .int (nI b))] [] N h (some (.int (stI (fun p => hbI (rg3 u n p n) (nI p)) n)), N, h) := by
                  intro kb9
                  induction kb9 with
                  | zero =>
                    intro b hi
                    obtain rfl : n = b := by omega
                    refine ko_iload (i := 7) dX5_ring_68 rfl ?_
                    refine ko_aload_n (i := 0) dX5_ring_70 rfl rfl ?_
                    refine ko_get fl_X5_45 dX5_ring_71 m0 rfl ?_
                    refine ko_icmp_ge (tgt := 117) dX5_ring_74 (by decide) (fun c_74 => ?_) (fun c_74 => ?_)
                    · refine ko_inc1 (i := 5) (lv' := [(0, _), (1, _), (2, _), (3, _), (4, _), (5, _), (6, _), (7, _)]) dX5_ring_117 rfl (by decide) rfl rfl rfl ?_
                      refine ko_goto (tgt := 34) dX5_ring_120 (by decide) ?_
                      refine ko_keep [0, 1, 2, 3, 4, 5] (lv' := [(0, _), (1, _), (2, _), (3, _), (4, _), (5, .int (nI a + 1))]) rfl ?_
                      have ei := iha (a + 1) (by omega)
                      rw [nI_succ, show rg2 u n p (rg3 u n p k9) (a + 1) = rg1 u a (rgF p a (rg2 u n p (rg3 u n p k9) a)) (rg2 u n p (rg3 u n p k9) a) n from rfl, hfr] at ei
                      exact ei
                    · exact absurd (show mN o ≤ nI n by rw [r2]; exact nI_le (Nat.le_refl _) (by omega)) c_74
                  | succ kb9 ihb =>
                    intro b hi
                    refine ko_iload (i := 7) dX5_ring_68 rfl ?_
                    refine ko_aload_n (i := 0) dX5_ring_70 rfl rfl ?_
                    refine ko_get fl_X5_45 dX5_ring_71 m0 rfl ?_
                    refine ko_icmp_ge (tgt := 117) dX5_ring_74 (by decide) (fun c_74 => ?_) (fun c_74 => ?_)
                    · exact absurd (show nI n ≤ nI b from by rw [← r2]; exact c_74) (nI_ge (by omega) (by omega))
                    · refine ko_iload_n (i := 3) dX5_ring_77 rfl rfl ?_
                      refine ko_iload (i := 6) dX5_ring_78 rfl ?_
                      first | refine ko_ifb_eq (tgt := 108) dX5_ring_80 (by decide) (fun c_80 => ?_) (fun c_80 => ?_) | refine ko_if_eq (tgt := 108) dX5_ring_80 (by decide) (fun c_80 => ?_) (fun c_80 => ?_)
                      · refine ko_iconst (v := 0) dX5_ring_108 (by decide) ?_
                        refine ko_ior dX5_ring_109 ?_
                        refine ko_istore_n (i := 3) (lv' := [(0, _), (1, _), (2, _), (3, _), (4, _), (5, _), (6, _), (7, _)]) dX5_ring_110 rfl (by decide) rfl rfl rfl ?_
                        refine ko_inc1 (i := 7) (lv' := [(0, _), (1, _), (2, _), (3, _), (4, _), (5, _), (6, _), (7, _)]) dX5_ring_111 rfl (by decide) rfl rfl rfl ?_
                        refine ko_goto (tgt := 68) dX5_ring_114 (by decide) ?_
                        first
                          | exact absurd rfl c_80
                          | exact ko_lv (by simp [rg1, rgE, nI_succ, c_74, c_80]) (ihb (b + 1) (by omega))
                      · refine ko_aload_n (i := 0) dX5_ring_83 rfl rfl ?_
                        refine ko_get fl_X5_22 dX5_ring_84 m0 rfl ?_
                        refine ko_bipush (v := 16) dX5_ring_87 (by decide) ?_
                        refine ko_iconst (v := 5) dX5_ring_89 (by decide) ?_
                        refine ko_iload (i := 5) dX5_ring_90 rfl ?_
                        refine ko_imul dX5_ring_92 ?_
                        refine ko_iadd dX5_ring_93 ?_
                        refine ko_iload (i := 7) dX5_ring_94 rfl ?_
                        refine ko_iadd dX5_ring_96 ?_
                        rw [a16]
                        refine ko_iald dX5_ring_97 m5 (in15 (by omega)) ?_
                        rw [nI_clamp (by omega), show 16 + 5 * a + b = 16 + (a * 5 + b) by omega, p5 _ (by omega), ← e1 a b (by omega) (by omega)]
                        refine ko_if_le (tgt := 108) dX5_ring_98 (by decide) (fun c_98 => ?_) (fun c_98 => ?_)
                        · refine ko_iconst (v := 0) dX5_ring_108 (by decide) ?_
                          refine ko_ior dX5_ring_109 ?_
                          refine ko_istore_n (i := 3) (lv' := [(0, _), (1, _), (2, _), (3, _), (4, _), (5, _), (6, _), (7, _)]) dX5_ring_110 rfl (by decide) rfl rfl rfl ?_
                          refine ko_inc1 (i := 7) (lv' := [(0, _), (1, _), (2, _), (3, _), (4, _), (5, _), (6, _), (7, _)]) dX5_ring_111 rfl (by decide) rfl rfl rfl ?_
                          refine ko_goto (tgt := 68) dX5_ring_114 (by decide) ?_
                          first
                            | exact absurd rfl c_80
                            | exact ko_lv (by simp [rg1, rgE, nI_succ, c_74, c_80, c_98]) (ihb (b + 1) (by omega))
                        · refine ko_iconst (v := 1) dX5_ring_101 (by decide) ?_
                          refine ko_iload (i := 7) dX5_ring_102 rfl ?_
                          refine ko_ishl dX5_ring_104 ?_
                          refine ko_goto (tgt := 109) dX5_ring_105 (by decide) ?_
                          refine ko_ior dX5_ring_109 ?_
                          refine ko_istore_n (i := 3) (lv' := [(0, _), (1, _), (2, _), (3, _), (4, _), (5, _), (6, _), (7, _)]) dX5_ring_110 rfl (by decide) rfl rfl rfl ?_
                          refine ko_inc1 (i := 7) (lv' := [(0, _), (1, _), (2, _), (3, _), (4, _), (5, _), (6, _), (7, _)]) dX5_ring_111 rfl (by decide) rfl rfl rfl ?_
                          refine ko_goto (tgt := 68) dX5_ring_114 (by decide) ?_
                          first
                            | exact absurd rfl c_80
                            | exact ko_lv (by simp [rg1, rgE, nI_succ, c_74, c_80, c_98]) (ihb (b + 1) (by omega))
                exact LB n 0 (by omega)
              have LBF : (rgF p a (rg2 u n p (rg3 u n p k9) a)) = false → kx_Ok mX5_ring d 0 0 G 0 0 68 [(0, .ref m), (1, .int (stI (fun p => hbI (rg3 u n p n) (nI p)) p)), (2, .int (nI p)), (3, .int (rg2 u n p (rg3 u n p k9) a)), (4, .int (nI k9)), (5, .int (nI a)), (6, .int 0), (7, .int (nI 0))] [] N h (some (.int (stI (fun p => hbI (rg3 u n p n) (nI p)) n)), N, h) := by
                intro hfr
                have LB : ∀ (kb9 b : Nat), kb9 + b = n → kx_Ok mX5_ring d 0 0 G 0 0 68 [(0, .ref m), (1, .int (stI (fun p => hbI (rg3 u n p n) (nI p)) p)), (2, .int (nI p)), (3, .int (rg1 u a false (rg2 u n p (rg3 u n p k9) a) b)), (4, .int (nI k9)), (5, .int (nI a)), (6, .int 0), (7, .int (nI b))] [] N h (some (.int (stI (fun p => hbI (rg3 u n p n) (nI p)) n)), N, h) := by
                  intro kb9
                  induction kb9 with
                  | zero =>
                    intro b hi
                    obtain rfl : n = b := by omega
                    refine ko_iload (i := 7) dX5_ring_68 rfl ?_
                    refine ko_aload_n (i := 0) dX5_ring_70 rfl rfl ?_
                    refine ko_get fl_X5_45 dX5_ring_71 m0 rfl ?_
                    refine ko_icmp_ge (tgt := 117) dX5_ring_74 (by decide) (fun c_74 => ?_) (fun c_74 => ?_)
                    · refine ko_inc1 (i := 5) (lv' := [(0, _), (1, _), (2, _), (3, _), (4, _), (5, _), (6, _), (7, _)]) dX5_ring_117 rfl (by decide) rfl rfl rfl ?_
                      refine ko_goto (tgt := 34) dX5_ring_120 (by decide) ?_
                      refine ko_keep [0, 1, 2, 3, 4, 5] (lv' := [(0, _), (1, _), (2, _), (3, _), (4, _), (5, .int (nI a + 1))]) rfl ?_
                      have ei := iha (a + 1) (by omega)
                      rw [nI_succ, show rg2 u n p (rg3 u n p k9) (a + 1) = rg1 u a (rgF p a (rg2 u n p (rg3 u n p k9) a)) (rg2 u n p (rg3 u n p k9) a) n from rfl, hfr] at ei
                      exact ei
                    · exact absurd (show mN o ≤ nI n by rw [r2]; exact nI_le (Nat.le_refl _) (by omega)) c_74
                  | succ kb9 ihb =>
                    intro b hi
                    refine ko_iload (i := 7) dX5_ring_68 rfl ?_
                    refine ko_aload_n (i := 0) dX5_ring_70 rfl rfl ?_
                    refine ko_get fl_X5_45 dX5_ring_71 m0 rfl ?_
                    refine ko_icmp_ge (tgt := 117) dX5_ring_74 (by decide) (fun c_74 => ?_) (fun c_74 => ?_)
                    · exact absurd (show nI n ≤ nI b from by rw [← r2]; exact c_74) (nI_ge (by omega) (by omega))
                    · refine ko_iload_n (i := 3) dX5_ring_77 rfl rfl ?_
                      refine ko_iload (i := 6) dX5_ring_78 rfl ?_
                      first | refine ko_ifb_eq (tgt := 108) dX5_ring_80 (by decide) (fun c_80 => ?_) (fun c_80 => ?_) | refine ko_if_eq (tgt := 108) dX5_ring_80 (by decide) (fun c_80 => ?_) (fun c_80 => ?_)
                      · refine ko_iconst (v := 0) dX5_ring_108 (by decide) ?_
                        refine ko_ior dX5_ring_109 ?_
                        refine ko_istore_n (i := 3) (lv' := [(0, _), (1, _), (2, _), (3, _), (4, _), (5, _), (6, _), (7, _)]) dX5_ring_110 rfl (by decide) rfl rfl rfl ?_
                        refine ko_inc1 (i := 7) (lv' := [(0, _), (1, _), (2, _), (3, _), (4, _), (5, _), (6, _), (7, _)]) dX5_ring_111 rfl (by decide) rfl rfl rfl ?_
                        refine ko_goto (tgt := 68) dX5_ring_114 (by decide) ?_
                        first
                          | exact absurd rfl c_80
                          | exact ko_lv (by simp [rg1, rgE, nI_succ, c_74, c_80]) (ihb (b + 1) (by omega))
                      · refine ko_aload_n (i := 0) dX5_ring_83 rfl rfl ?_
                        refine ko_get fl_X5_22 dX5_ring_84 m0 rfl ?_
                        refine ko_bipush (v := 16) dX5_ring_87 (by decide) ?_
                        refine ko_iconst (v := 5) dX5_ring_89 (by decide) ?_
                        refine ko_iload (i := 5) dX5_ring_90 rfl ?_
                        refine ko_imul dX5_ring_92 ?_
                        refine ko_iadd dX5_ring_93 ?_
                        refine ko_iload (i := 7) dX5_ring_94 rfl ?_
                        refine ko_iadd dX5_ring_96 ?_
                        rw [a16]
                        refine ko_iald dX5_ring_97 m5 (in15 (by omega)) ?_
                        rw [nI_clamp (by omega), show 16 + 5 * a + b = 16 + (a * 5 + b) by omega, p5 _ (by omega), ← e1 a b (by omega) (by omega)]
                        refine ko_if_le (tgt := 108) dX5_ring_98 (by decide) (fun c_98 => ?_) (fun c_98 => ?_)
                        · refine ko_iconst (v := 0) dX5_ring_108 (by decide) ?_
                          refine ko_ior dX5_ring_109 ?_
                          refine ko_istore_n (i := 3) (lv' := [(0, _), (1, _), (2, _), (3, _), (4, _), (5, _), (6, _), (7, _)]) dX5_ring_110 rfl (by decide) rfl rfl rfl ?_
                          refine ko_inc1 (i := 7) (lv' := [(0, _), (1, _), (2, _), (3, _), (4, _), (5, _), (6, _), (7, _)]) dX5_ring_111 rfl (by decide) rfl rfl rfl ?_
                          refine ko_goto (tgt := 68) dX5_ring_114 (by decide) ?_
                          first
                            | exact absurd rfl c_80
                            | exact ko_lv (by simp [rg1, rgE, nI_succ, c_74, c_80, c_98]) (ihb (b + 1) (by omega))
                        · refine ko_iconst (v := 1) dX5_ring_101 (by decide) ?_
                          refine ko_iload (i := 7) dX5_ring_102 rfl ?_
                          refine ko_ishl dX5_ring_104 ?_
                          refine ko_goto (tgt := 109) dX5_ring_105 (by decide) ?_
                          refine ko_ior dX5_ring_109 ?_
                          refine ko_istore_n (i := 3) (lv' := [(0, _), (1, _), (2, _), (3, _), (4, _), (5, _), (6, _), (7, _)]) dX5_ring_110 rfl (by decide) rfl rfl rfl ?_
                          refine ko_inc1 (i := 7) (lv' := [(0, _), (1, _), (2, _), (3, _), (4, _), (5, _), (6, _), (7, _)]) dX5_ring_111 rfl (by decide) rfl rfl rfl ?_
                          refine ko_goto (tgt := 68) dX5_ring_114 (by decide) ?_
                          first
                            | exact absurd rfl c_80
                            | exact ko_lv (by simp [rg1, rgE, nI_succ, c_74, c_80, c_98]) (ihb (b + 1) (by omega))
                exact LB n 0 (by omega)
              refine ko_iload (i := 5) dX5_ring_34 rfl ?_
              refine ko_aload_n (i := 0) dX5_ring_36 rfl rfl ?_
              refine ko_get fl_X5_45 dX5_ring_37 m0 rfl ?_
              refine ko_icmp_ge (tgt := 123) dX5_ring_40 (by decide) (fun c_40 => ?_) (fun c_40 => ?_)
              · exact absurd (show nI n ≤ nI a from by rw [← r2]; exact c_40) (nI_ge (by omega) (by omega))
              · refine ko_iload (i := 5) dX5_ring_43 rfl ?_
                refine ko_iload_n (i := 2) dX5_ring_45 rfl rfl ?_
                refine ko_icmp_eq (tgt := 58) dX5_ring_46 (by decide) (fun c_46 => ?_) (fun c_46 => ?_)
                · refine ko_iconst (v := 1) dX5_ring_58 (by decide) ?_
                  refine ko_goto (tgt := 63) dX5_ring_59 (by decide) ?_
                  refine ko_istore (i := 6) (lv' := [(0, _), (1, _), (2, _), (3, _), (4, _), (5, _), (6, _)]) dX5_ring_63 (by decide) rfl rfl rfl ?_
                  refine ko_iconst (v := 0) dX5_ring_65 (by decide) ?_
                  refine ko_istore (i := 7) (lv' := [(0, _), (1, _), (2, _), (3, _), (4, _), (5, _), (6, _), (7, _)]) dX5_ring_66 (by decide) rfl rfl rfl ?_
                  first
                    | exact LBT (by unfold rgF; rw [decide_eq_true ((nI_eq (by omega) (by omega)).mp c_46)]; rfl)
                    | exact LBT (by unfold rgF; rw [c_55, Bool.or_true])
                    | exact LBF (by unfold rgF; rw [c_55, decide_eq_false (fun z => c_46 (by rw [z])), Bool.or_false])
                · refine ko_iload_n (i := 3) dX5_ring_49 rfl rfl ?_
                  refine ko_iload (i := 5) dX5_ring_50 rfl ?_
                  refine ko_callSr lk_X5_63 dX5_ring_52 (fn_mhas (by omega)) rfl rfl (by omega) (by omega) (by omega) (Nat.le_of_ble_eq_true rfl) ?_
                  first | refine ko_ifb_eq (tgt := 62) dX5_ring_55 (by decide) (fun c_55 => ?_) (fun c_55 => ?_) | refine ko_if_eq (tgt := 62) dX5_ring_55 (by decide) (fun c_55 => ?_) (fun c_55 => ?_)
                  · refine ko_iconst (v := 0) dX5_ring_62 (by decide) ?_
                    refine ko_istore (i := 6) (lv' := [(0, _), (1, _), (2, _), (3, _), (4, _), (5, _), (6, _)]) dX5_ring_63 (by decide) rfl rfl rfl ?_
                    refine ko_iconst (v := 0) dX5_ring_65 (by decide) ?_
                    refine ko_istore (i := 7) (lv' := [(0, _), (1, _), (2, _), (3, _), (4, _), (5, _), (6, _), (7, _)]) dX5_ring_66 (by decide) rfl rfl rfl ?_
                    first
                      | exact LBT (by unfold rgF; rw [decide_eq_true ((nI_eq (by omega) (by omega)).mp c_46)]; rfl)
                      | exact LBT (by unfold rgF; rw [c_55, Bool.or_true])
                      | exact LBF (by unfold rgF; rw [c_55, decide_eq_false (fun z => c_46 (by rw [z])), Bool.or_false])
                  · refine ko_iconst (v := 1) dX5_ring_58 (by decide) ?_
                    refine ko_goto (tgt := 63) dX5_ring_59 (by decide) ?_
                    refine ko_istore (i := 6) (lv' := [(0, _), (1, _), (2, _), (3, _), (4, _), (5, _), (6, _)]) dX5_ring_63 (by decide) rfl rfl rfl ?_
                    refine ko_iconst (v := 0) dX5_ring_65 (by decide) ?_
                    refine ko_istore (i := 7) (lv' := [(0, _), (1, _), (2, _), (3, _), (4, _), (5, _), (6, _), (7, _)]) dX5_ring_66 (by decide) rfl rfl rfl ?_
                    first
                      | exact LBT (by unfold rgF; rw [decide_eq_true ((nI_eq (by omega) (by omega)).mp c_46)]; rfl)
                      | exact LBT (by unfold rgF; rw [c_55, Bool.or_true])
                      | exact LBF (by unfold rgF; rw [c_55, decide_eq_false (fun z => c_46 (by rw [z])), Bool.or_false])
          refine ko_iload (i := 4) dX5_ring_22 rfl ?_
          refine ko_aload_n (i := 0) dX5_ring_24 rfl rfl ?_
          refine ko_get fl_X5_45 dX5_ring_25 m0 rfl ?_
          refine ko_icmp_ge (tgt := 129) dX5_ring_28 (by decide) (fun c_28 => ?_) (fun c_28 => ?_)
          · exact absurd (show nI n ≤ nI k9 from by rw [← r2]; exact c_28) (nI_ge (by omega) (by omega))
          · refine ko_iconst (v := 0) dX5_ring_31 (by decide) ?_
            refine ko_istore (i := 5) (lv' := [(0, _), (1, _), (2, _), (3, _), (4, _), (5, _)]) dX5_ring_32 (by decide) rfl rfl rfl ?_
            exact LA n 0 (by omega)
      refine ko_iload_n (i := 2) dX5_ring_9 rfl rfl ?_
      refine ko_aload_n (i := 0) dX5_ring_10 rfl rfl ?_
      refine ko_get fl_X5_45 dX5_ring_11 m0 rfl ?_
      refine ko_icmp_ge (tgt := 153) dX5_ring_14 (by decide) (fun c_14 => ?_) (fun c_14 => ?_)
      · exact absurd (show nI n ≤ nI p from by rw [← r2]; exact c_14) (nI_ge (by omega) (by omega))
      · refine ko_iconst (v := 0) dX5_ring_17 (by decide) ?_
        refine ko_istore_n (i := 3) (lv' := [(0, _), (1, _), (2, _), (3, _)]) dX5_ring_18 rfl (by decide) rfl rfl rfl ?_
        refine ko_iconst (v := 0) dX5_ring_19 (by decide) ?_
        refine ko_istore (i := 4) (lv' := [(0, _), (1, _), (2, _), (3, _), (4, _)]) dX5_ring_20 (by decide) rfl rfl rfl ?_
        exact LK n 0 (by omega)
  refine ko_aload_n (i := 0) dX5_ring_0 rfl rfl ?_
  refine ko_iconst (v := 0) dX5_ring_1 (by decide) ?_
  refine ko_put fl_X5_41 dX5_ring_2 m0 rfl rfl (Nat.le_of_ble_eq_true rfl) ?_
  refine ko_h (ku_same m0) ?_
  refine ko_iconst (v := 0) dX5_ring_5 (by decide) ?_
  refine ko_istore_n (i := 1) (lv' := [(0, _), (1, _)]) dX5_ring_6 rfl (by decide) rfl rfl rfl ?_
  refine ko_iconst (v := 0) dX5_ring_7 (by decide) ?_
  refine ko_istore_n (i := 2) (lv' := [(0, _), (1, _), (2, _)]) dX5_ring_8 rfl (by decide) rfl rfl rfl ?_
  rw [ri_st hw n (Nat.le_refl n)]
  exact LOOP n 0 (by omega)
set_option maxRecDepth 20000 in
theorem y_weighed0 {G : kx_G} {d N m : Nat} {h : kx_H} {T : Nat → Int32} {L : Nat} {u : PU} {n C : Nat} {Ac K : Nat → PU} {kf : Nat → Int32} {sd : Int64} {pe sum w : Int32} (ok : wdB u pe sum w = false) (hM : kM h m T L u n C Ac K kf sd) (hw : WF u n) (hd : 20 ≤ d) : kx_Fn mX5_weighed d 0 0 G [.ref m, .int pe, .int sum, .int w] N h (some (.int (-2)), N, h) := by
  refine kx_Fn_of rfl (Nat.le_of_ble_eq_true rfl) rfl ?_ (kx_self)
  obtain ⟨o, Kf, f, tr, rp, rk, bk, kp, zk, va, hi9, r1, r2, r3, r4, r5, r6, r7, r8, r9, rC, rL⟩ := id hM
  obtain ⟨m0, m1, m2, m3, m4, m5, m6, m7, m8, m9, m10⟩ := id hi9
  have hn5 := hw.2.1
  obtain ⟨p1, p2, p3, p4, p5, p6, p7⟩ := id r6
  refine ko_aload_n (i := 0) dX5_weighed_0 rfl rfl ?_
  refine ko_iconst (v := 0) dX5_weighed_1 (by decide) ?_
  refine ko_put fl_X5_41 dX5_weighed_2 m0 rfl rfl (Nat.le_of_ble_eq_true rfl) ?_
  refine ko_h (ku_same m0) ?_
  refine ko_iload_n (i := 1) dX5_weighed_5 rfl rfl ?_
  refine ko_i2l dX5_weighed_6 ?_
  refine ko_lconst (v := 0) dX5_weighed_7 (by decide) ?_
  refine ko_aload_n (i := 0) dX5_weighed_8 rfl rfl ?_
  refine ko_callVr lk_X5_147 dX5_weighed_9 (fn_meveryone (n := n) (d := d - 1) m0) rfl rfl m0 rfl rfl (by omega) (by omega) (by omega) (Nat.le_of_ble_eq_true rfl) ?_
  refine ko_i2l dX5_weighed_12 ?_
  refine ko_callSr lk_X5_48 dX5_weighed_13 (fn_in (d := d - 1) (v := pe) (a := 0) (b := evI (mN o))) rfl rfl (by omega) (by omega) (by omega) (Nat.le_of_ble_eq_true rfl) ?_
  first | refine ko_ifb_eq (tgt := 43) dX5_weighed_16 (by decide) (fun c_16 => ?_) (fun c_16 => ?_) | refine ko_if_eq (tgt := 43) dX5_weighed_16 (by decide) (fun c_16 => ?_) (fun c_16 => ?_)
  · refine ko_bipush (v := (-2)) dX5_weighed_43 (by decide) ?_
    refine ko_iret dX5_weighed_45 rfl (Nat.le_of_ble_eq_true rfl) (Nat.le_of_ble_eq_true rfl) ?_
    rfl
  · refine ko_iload_n (i := 2) dX5_weighed_19 rfl rfl ?_
    refine ko_i2l dX5_weighed_20 ?_
    refine ko_lconst (v := 0) dX5_weighed_21 (by decide) ?_
    refine ko_ldc2 dX5_weighed_22 fc_X5_166 ?_
    refine ko_callSr lk_X5_48 dX5_weighed_25 (fn_in (d := d - 1) (v := sum) (a := 0) (b := 45)) rfl rfl (by omega) (by omega) (by omega) (Nat.le_of_ble_eq_true rfl) ?_
    first | refine ko_ifb_eq (tgt := 43) dX5_weighed_28 (by decide) (fun c_28 => ?_) (fun c_28 => ?_) | refine ko_if_eq (tgt := 43) dX5_weighed_28 (by decide) (fun c_28 => ?_) (fun c_28 => ?_)
    · refine ko_bipush (v := (-2)) dX5_weighed_43 (by decide) ?_
      refine ko_iret dX5_weighed_45 rfl (Nat.le_of_ble_eq_true rfl) (Nat.le_of_ble_eq_true rfl) ?_
      rfl
    · refine ko_iload_n (i := 3) dX5_weighed_31 rfl rfl ?_
      refine ko_i2l dX5_weighed_32 ?_
      refine ko_lconst (v := 0) dX5_weighed_33 (by decide) ?_
      refine ko_ldc2 dX5_weighed_34 fc_X5_145 ?_
      refine ko_callSr lk_X5_48 dX5_weighed_37 (fn_in (d := d - 1) (v := w) (a := 0) (b := 2)) rfl rfl (by omega) (by omega) (by omega) (Nat.le_of_ble_eq_true rfl) ?_
      first | refine ko_ifb_ne (tgt := 46) dX5_weighed_40 (by decide) (fun c_40 => ?_) (fun c_40 => ?_) | refine ko_if_ne (tgt := 46) dX5_weighed_40 (by decide) (fun c_40 => ?_) (fun c_40 => ?_)
      · rw [r2] at c_16
        exact absurd (wd_B (pe := pe) (sum := sum) (w := w) hw) (by rw [ok, c_16, c_28, c_40]; decide)
      · refine ko_bipush (v := (-2)) dX5_weighed_43 (by decide) ?_
        refine ko_iret dX5_weighed_45 rfl (Nat.le_of_ble_eq_true rfl) (Nat.le_of_ble_eq_true rfl) ?_
        rfl
set_option maxRecDepth 20000 in
theorem y_weighed1 {G : kx_G} {d N m : Nat} {h : kx_H} {T : Nat → Int32} {L : Nat} {u : PU} {n C : Nat} {Ac K : Nat → PU} {kf : Nat → Int32} {sd : Int64} {v : Nat} {sum w : Int32} (hm2 : v < 32) (ok : wdB u (nI v) sum w = true) (hM : kM h m T L u n C Ac K kf sd) (hw : WF u n) (hd : 20 ≤ d) : kx_Fn mX5_weighed d 0 0 G [.ref m, .int (nI v), .int sum, .int w] N h (some (.int (wdI v (wdS u n v sum (v + 1)) w)), N, h) := by
  refine kx_Fn_of rfl (Nat.le_of_ble_eq_true rfl) rfl ?_ (kx_self)
  obtain ⟨o, Kf, f, tr, rp, rk, bk, kp, zk, va, hi9, r1, r2, r3, r4, r5, r6, r7, r8, r9, rC, rL⟩ := id hM
  obtain ⟨m0, m1, m2, m3, m4, m5, m6, m7, m8, m9, m10⟩ := id hi9
  have hn5 := hw.2.1
  obtain ⟨p1, p2, p3, p4, p5, p6, p7⟩ := id r6
  have h9 := wd_B (pe := nI v) (sum := sum) (w := w) hw
  rw [ok] at h9
  have h8 := h9.symm
  rw [Bool.and_eq_true, Bool.and_eq_true] at h8
  obtain ⟨b1, b2, b3⟩ := h8
  have LOOP : ∀ (k s : Nat), k + s = (v + 1) → kx_Ok mX5_weighed d 0 0 G 0 0 58 [(0, .ref m), (1, .int (nI v)), (2, .int sum), (3, .int w), (4, .int (wdS u n v sum s).1), (5, .int (wdS u n v sum s).2.1), (6, .int (wdS u n v sum s).2.2), (7, .int (nI s))] [] N h (some (.int (wdI v (wdS u n v sum (v + 1)) w)), N, h) := by
    intro k
    induction k with
    | zero =>
      intro s hi
      obtain rfl : s = (v + 1) := by omega
      refine ko_iload (i := 7) dX5_weighed_58 rfl ?_
      refine ko_iload_n (i := 1) dX5_weighed_60 rfl rfl ?_
      refine ko_icmp_gt (tgt := 165) dX5_weighed_61 (by decide) (fun c_61 => ?_) (fun c_61 => ?_)
      · refine ko_iload_n (i := 3) dX5_weighed_165 rfl rfl ?_
        refine ko_if_ne (tgt := 174) dX5_weighed_166 (by decide) (fun c_166 => ?_) (fun c_166 => ?_)
        · refine ko_iload (i := 4) dX5_weighed_174 rfl ?_
          refine ko_if_ne (tgt := 184) dX5_weighed_176 (by decide) (fun c_176 => ?_) (fun c_176 => ?_)
          · refine ko_iload_n (i := 3) dX5_weighed_184 rfl rfl ?_
            refine ko_iconst (v := 1) dX5_weighed_185 (by decide) ?_
            refine ko_icmp_ne (tgt := 194) dX5_weighed_186 (by decide) (fun c_186 => ?_) (fun c_186 => ?_)
            · refine ko_iload_n (i := 1) dX5_weighed_194 rfl rfl ?_
              refine ko_iload (i := 6) dX5_weighed_195 rfl ?_
              refine ko_iconst (v := (-1)) dX5_weighed_197 (by decide) ?_
              refine ko_ixor dX5_weighed_198 ?_
              refine ko_iand dX5_weighed_199 ?_
              refine ko_iret dX5_weighed_200 rfl (Nat.le_of_ble_eq_true rfl) (Nat.le_of_ble_eq_true rfl) ?_
              unfold wdI
              first
                | rw [if_pos c_166]
                | rw [if_neg c_166, if_pos c_176]
                | rw [if_neg c_166, if_neg c_176, if_pos c_186]
                | (rw [if_neg c_166, if_neg c_176, if_neg (fun z => z c_186)])
            · refine ko_iload (i := 5) dX5_weighed_189 rfl ?_
              refine ko_goto (tgt := 200) dX5_weighed_191 (by decide) ?_
              refine ko_iret dX5_weighed_200 rfl (Nat.le_of_ble_eq_true rfl) (Nat.le_of_ble_eq_true rfl) ?_
              unfold wdI
              first
                | rw [if_pos c_166]
                | rw [if_neg c_166, if_pos c_176]
                | rw [if_neg c_166, if_neg c_176, if_pos c_186]
                | (rw [if_neg c_166, if_neg c_176, if_neg (fun z => z c_186)])
          · refine ko_bipush (v := (-9)) dX5_weighed_179 (by decide) ?_
            refine ko_goto (tgt := 200) dX5_weighed_181 (by decide) ?_
            refine ko_iret dX5_weighed_200 rfl (Nat.le_of_ble_eq_true rfl) (Nat.le_of_ble_eq_true rfl) ?_
            unfold wdI
            first
              | rw [if_pos c_166]
              | rw [if_neg c_166, if_pos c_176]
              | rw [if_neg c_166, if_neg c_176, if_pos c_186]
              | (rw [if_neg c_166, if_neg c_176, if_neg (fun z => z c_186)])
        · refine ko_iload (i := 4) dX5_weighed_169 rfl ?_
          refine ko_goto (tgt := 200) dX5_weighed_171 (by decide) ?_
          refine ko_iret dX5_weighed_200 rfl (Nat.le_of_ble_eq_true rfl) (Nat.le_of_ble_eq_true rfl) ?_
          unfold wdI
          first
            | rw [if_pos c_166]
            | rw [if_neg c_166, if_pos c_176]
            | rw [if_neg c_166, if_neg c_176, if_pos c_186]
            | (rw [if_neg c_166, if_neg c_176, if_neg (fun z => z c_186)])
      · exact absurd (show nI v < nI (v + 1) from nI_lt (by omega) (by omega)) c_61
    | succ k ih =>
      intro s hi
      have LIN : ∀ (ki9 i : Nat), ki9 + i = n → kx_Ok mX5_weighed d 0 0 G 0 0 70 [(0, .ref m), (1, .int (nI v)), (2, .int sum), (3, .int w), (4, .int (wdS u n v sum s).1), (5, .int (wdS u n v sum s).2.1), (6, .int (wdS u n v sum s).2.2), (7, .int (nI s)), (8, .int (wmI u (nI v) (nI s) i)), (9, .int (nI i))] [] N h (some (.int (wdI v (wdS u n v sum (v + 1)) w)), N, h) := by
        intro ki9
        induction ki9 with
        | zero =>
          intro i hi
          obtain rfl : n = i := by omega
          refine ko_iload (i := 9) dX5_weighed_70 rfl ?_
          refine ko_aload_n (i := 0) dX5_weighed_72 rfl rfl ?_
          refine ko_get fl_X5_45 dX5_weighed_73 m0 rfl ?_
          refine ko_icmp_ge (tgt := 127) dX5_weighed_76 (by decide) (fun c_76 => ?_) (fun c_76 => ?_)
          · refine ko_iload (i := 7) dX5_weighed_127 rfl ?_
            refine ko_iload_n (i := 1) dX5_weighed_129 rfl rfl ?_
            refine ko_iconst (v := (-1)) dX5_weighed_130 (by decide) ?_
            refine ko_ixor dX5_weighed_131 ?_
            refine ko_iand dX5_weighed_132 ?_
            refine ko_st (st' := [.int (sbI (nI s) (nI v))]) rfl ?_
            refine ko_if_ne (tgt := 159) dX5_weighed_133 (by decide) (fun c_133 => ?_) (fun c_133 => ?_)
            · refine ko_inc1 (i := 7) (lv' := [(0, _), (1, _), (2, _), (3, _), (4, _), (5, _), (6, _), (7, _), (8, _), (9, _)]) dX5_weighed_159 rfl (by decide) rfl rfl rfl ?_
              refine ko_goto (tgt := 58) dX5_weighed_162 (by decide) ?_
              have ei := ih (s + 1) (by omega)
              refine ko_keep [0, 1, 2, 3, 4, 5, 6, 7] (lv' := [(0, _), (1, _), (2, _), (3, _), (4, _), (5, _), (6, _), (7, .int (nI s + 1))]) rfl ?_
              first
                | (have c9 : ¬ sbI (nI s) (nI v) = 0 := c_133
                   rw [wdS, if_pos c9, nI_succ] at ei; exact ei)
                | (have c8 : sbI (nI s) (nI v) = 0 := c_133
                   have hc : ¬ ¬ sbI (nI s) (nI v) = 0 := fun z => z c8
                   rw [wm_eq (by omega) hm2 c8 n hn5] at c_139
                   rw [wdS, if_neg hc, if_pos c_139, nI_succ] at ei; exact ei)
                | (have c8 : sbI (nI s) (nI v) = 0 := Classical.not_not.mp c_133
                   have hc : ¬ ¬ sbI (nI s) (nI v) = 0 := fun z => z c8
                   rw [wm_eq (by omega) hm2 c8 n hn5] at c_139
                   rw [wdS, if_neg hc, if_pos c_139, nI_succ] at ei; exact ei)
                | (have c8 : sbI (nI s) (nI v) = 0 := c_133
                   have hc : ¬ ¬ sbI (nI s) (nI v) = 0 := fun z => z c8
                   rw [wm_eq (by omega) hm2 c8 n hn5] at c_139
                   have hd9 : ¬ ¬ wgI u (nI v) (nI s) n = sum := fun z => z c_139
                   rw [wdS, if_neg hc, if_neg hd9, nI_succ] at ei; exact ei)
            · refine ko_iload (i := 8) dX5_weighed_136 rfl ?_
              refine ko_iload_n (i := 2) dX5_weighed_138 rfl rfl ?_
              refine ko_icmp_ne (tgt := 159) dX5_weighed_139 (by decide) (fun c_139 => ?_) (fun c_139 => ?_)
              · refine ko_inc1 (i := 7) (lv' := [(0, _), (1, _), (2, _), (3, _), (4, _), (5, _), (6, _), (7, _), (8, _), (9, _)]) dX5_weighed_159 rfl (by decide) rfl rfl rfl ?_
                refine ko_goto (tgt := 58) dX5_weighed_162 (by decide) ?_
                have ei := ih (s + 1) (by omega)
                refine ko_keep [0, 1, 2, 3, 4, 5, 6, 7] (lv' := [(0, _), (1, _), (2, _), (3, _), (4, _), (5, _), (6, _), (7, .int (nI s + 1))]) rfl ?_
                first
                  | (have c9 : ¬ sbI (nI s) (nI v) = 0 := c_133
                     rw [wdS, if_pos c9, nI_succ] at ei; exact ei)
                  | (have c8 : sbI (nI s) (nI v) = 0 := c_133
                     have hc : ¬ ¬ sbI (nI s) (nI v) = 0 := fun z => z c8
                     rw [wm_eq (by omega) hm2 c8 n hn5] at c_139
                     rw [wdS, if_neg hc, if_pos c_139, nI_succ] at ei; exact ei)
                  | (have c8 : sbI (nI s) (nI v) = 0 := Classical.not_not.mp c_133
                     have hc : ¬ ¬ sbI (nI s) (nI v) = 0 := fun z => z c8
                     rw [wm_eq (by omega) hm2 c8 n hn5] at c_139
                     rw [wdS, if_neg hc, if_pos c_139, nI_succ] at ei; exact ei)
                  | (have c8 : sbI (nI s) (nI v) = 0 := c_133
                     have hc : ¬ ¬ sbI (nI s) (nI v) = 0 := fun z => z c8
                     rw [wm_eq (by omega) hm2 c8 n hn5] at c_139
                     have hd9 : ¬ ¬ wgI u (nI v) (nI s) n = sum := fun z => z c_139
                     rw [wdS, if_neg hc, if_neg hd9, nI_succ] at ei; exact ei)
              · refine ko_inc1 (i := 4) (lv' := [(0, _), (1, _), (2, _), (3, _), (4, _), (5, _), (6, _), (7, _), (8, _), (9, _)]) dX5_weighed_142 rfl (by decide) rfl rfl rfl ?_
                refine ko_iload (i := 5) dX5_weighed_145 rfl ?_
                refine ko_iload (i := 7) dX5_weighed_147 rfl ?_
                refine ko_iand dX5_weighed_149 ?_
                refine ko_istore (i := 5) (lv' := [(0, _), (1, _), (2, _), (3, _), (4, _), (5, _), (6, _), (7, _), (8, _), (9, _)]) dX5_weighed_150 (by decide) rfl rfl rfl ?_
                refine ko_iload (i := 6) dX5_weighed_152 rfl ?_
                refine ko_iload (i := 7) dX5_weighed_154 rfl ?_
                refine ko_ior dX5_weighed_156 ?_
                refine ko_istore (i := 6) (lv' := [(0, _), (1, _), (2, _), (3, _), (4, _), (5, _), (6, _), (7, _), (8, _), (9, _)]) dX5_weighed_157 (by decide) rfl rfl rfl ?_
                refine ko_inc1 (i := 7) (lv' := [(0, _), (1, _), (2, _), (3, _), (4, _), (5, _), (6, _), (7, _), (8, _), (9, _)]) dX5_weighed_159 rfl (by decide) rfl rfl rfl ?_
                refine ko_goto (tgt := 58) dX5_weighed_162 (by decide) ?_
                have ei := ih (s + 1) (by omega)
                refine ko_keep [0, 1, 2, 3, 4, 5, 6, 7] (lv' := [(0, _), (1, _), (2, _), (3, _), (4, _), (5, _), (6, _), (7, .int (nI s + 1))]) rfl ?_
                first
                  | (have c9 : ¬ sbI (nI s) (nI v) = 0 := c_133
                     rw [wdS, if_pos c9, nI_succ] at ei; exact ei)
                  | (have c8 : sbI (nI s) (nI v) = 0 := c_133
                     have hc : ¬ ¬ sbI (nI s) (nI v) = 0 := fun z => z c8
                     rw [wm_eq (by omega) hm2 c8 n hn5] at c_139
                     rw [wdS, if_neg hc, if_pos c_139, nI_succ] at ei; exact ei)
                  | (have c8 : sbI (nI s) (nI v) = 0 := Classical.not_not.mp c_133
                     have hc : ¬ ¬ sbI (nI s) (nI v) = 0 := fun z => z c8
                     rw [wm_eq (by omega) hm2 c8 n hn5] at c_139
                     rw [wdS, if_neg hc, if_pos c_139, nI_succ] at ei; exact ei)
                  | (have c8 : sbI (nI s) (nI v) = 0 := c_133
                     have hc : ¬ ¬ sbI (nI s) (nI v) = 0 := fun z => z c8
                     rw [wm_eq (by omega) hm2 c8 n hn5] at c_139
                     have hd9 : ¬ ¬ wgI u (nI v) (nI s) n = sum := fun z => z c_139
                     rw [wdS, if_neg hc, if_neg hd9, nI_succ] at ei; exact ei)
          · exact absurd (show mN o ≤ nI n by rw [r2]; exact nI_le (Nat.le_refl _) (by omega)) c_76
        | succ ki9 ihi =>
          intro i hi
          refine ko_iload (i := 9) dX5_weighed_70 rfl ?_
          refine ko_aload_n (i := 0) dX5_weighed_72 rfl rfl ?_
          refine ko_get fl_X5_45 dX5_weighed_73 m0 rfl ?_
          refine ko_icmp_ge (tgt := 127) dX5_weighed_76 (by decide) (fun c_76 => ?_) (fun c_76 => ?_)
          · exact absurd (show nI n ≤ nI i from by rw [← r2]; exact c_76) (nI_ge (by omega) (by omega))
          · refine ko_iload (i := 8) dX5_weighed_79 rfl ?_
            refine ko_iload_n (i := 1) dX5_weighed_81 rfl rfl ?_
            refine ko_iload (i := 9) dX5_weighed_82 rfl ?_
            refine ko_callSr lk_X5_63 dX5_weighed_84 (fn_mhas (by omega)) rfl rfl (by omega) (by omega) (by omega) (Nat.le_of_ble_eq_true rfl) ?_
            first | refine ko_ifb_ne (tgt := 94) dX5_weighed_87 (by decide) (fun c_87 => ?_) (fun c_87 => ?_) | refine ko_if_ne (tgt := 94) dX5_weighed_87 (by decide) (fun c_87 => ?_) (fun c_87 => ?_)
            · refine ko_iload (i := 7) dX5_weighed_94 rfl ?_
              refine ko_iload (i := 9) dX5_weighed_96 rfl ?_
              refine ko_callSr lk_X5_63 dX5_weighed_98 (fn_mhas (by omega)) rfl rfl (by omega) (by omega) (by omega) (Nat.le_of_ble_eq_true rfl) ?_
              first | refine ko_ifb_eq (tgt := 108) dX5_weighed_101 (by decide) (fun c_101 => ?_) (fun c_101 => ?_) | refine ko_if_eq (tgt := 108) dX5_weighed_101 (by decide) (fun c_101 => ?_) (fun c_101 => ?_)
              · refine ko_aload_n (i := 0) dX5_weighed_108 rfl rfl ?_
                refine ko_aload_n (i := 0) dX5_weighed_109 rfl rfl ?_
                refine ko_get fl_X5_22 dX5_weighed_110 m0 rfl ?_
                refine ko_iload (i := 9) dX5_weighed_113 rfl ?_
                refine ko_callVr lk_X5_97 dX5_weighed_115 (fn_mounces (d := d - 1) m0 m2 r5 m5 r6 hw (show i < n by omega)) rfl rfl m0 rfl rfl (by omega) (by omega) (by omega) (Nat.le_of_ble_eq_true rfl) ?_
                refine ko_iadd dX5_weighed_118 ?_
                refine ko_istore (i := 8) (lv' := [(0, _), (1, _), (2, _), (3, _), (4, _), (5, _), (6, _), (7, _), (8, _), (9, _)]) dX5_weighed_119 (by decide) rfl rfl rfl ?_
                refine ko_inc1 (i := 9) (lv' := [(0, _), (1, _), (2, _), (3, _), (4, _), (5, _), (6, _), (7, _), (8, _), (9, _)]) dX5_weighed_121 rfl (by decide) rfl rfl rfl ?_
                refine ko_goto (tgt := 70) dX5_weighed_124 (by decide) ?_
                exact ko_lv (by simp [wmI, nI_succ, c_76, c_87, c_101]) (ihi (i + 1) (by omega))
              · refine ko_iconst (v := 2) dX5_weighed_104 (by decide) ?_
                refine ko_goto (tgt := 118) dX5_weighed_105 (by decide) ?_
                refine ko_iadd dX5_weighed_118 ?_
                refine ko_istore (i := 8) (lv' := [(0, _), (1, _), (2, _), (3, _), (4, _), (5, _), (6, _), (7, _), (8, _), (9, _)]) dX5_weighed_119 (by decide) rfl rfl rfl ?_
                refine ko_inc1 (i := 9) (lv' := [(0, _), (1, _), (2, _), (3, _), (4, _), (5, _), (6, _), (7, _), (8, _), (9, _)]) dX5_weighed_121 rfl (by decide) rfl rfl rfl ?_
                refine ko_goto (tgt := 70) dX5_weighed_124 (by decide) ?_
                exact ko_lv (by simp [wmI, nI_succ, c_76, c_87, c_101]) (ihi (i + 1) (by omega))
            · refine ko_iconst (v := 0) dX5_weighed_90 (by decide) ?_
              refine ko_goto (tgt := 118) dX5_weighed_91 (by decide) ?_
              refine ko_iadd dX5_weighed_118 ?_
              refine ko_istore (i := 8) (lv' := [(0, _), (1, _), (2, _), (3, _), (4, _), (5, _), (6, _), (7, _), (8, _), (9, _)]) dX5_weighed_119 (by decide) rfl rfl rfl ?_
              refine ko_inc1 (i := 9) (lv' := [(0, _), (1, _), (2, _), (3, _), (4, _), (5, _), (6, _), (7, _), (8, _), (9, _)]) dX5_weighed_121 rfl (by decide) rfl rfl rfl ?_
              refine ko_goto (tgt := 70) dX5_weighed_124 (by decide) ?_
              exact ko_lv (by simp [wmI, nI_succ, c_76, c_87]) (ihi (i + 1) (by omega))
      refine ko_iload (i := 7) dX5_weighed_58 rfl ?_
      refine ko_iload_n (i := 1) dX5_weighed_60 rfl rfl ?_
      refine ko_icmp_gt (tgt := 165) dX5_weighed_61 (by decide) (fun c_61 => ?_) (fun c_61 => ?_)
      · exact absurd (show nI v < nI s from c_61) (nI_nlt (by omega) (by omega))
      · refine ko_iconst (v := 0) dX5_weighed_64 (by decide) ?_
        refine ko_istore (i := 8) (lv' := [(0, _), (1, _), (2, _), (3, _), (4, _), (5, _), (6, _), (7, _), (8, _)]) dX5_weighed_65 (by decide) rfl rfl rfl ?_
        refine ko_iconst (v := 0) dX5_weighed_67 (by decide) ?_
        refine ko_istore (i := 9) (lv' := [(0, _), (1, _), (2, _), (3, _), (4, _), (5, _), (6, _), (7, _), (8, _), (9, _)]) dX5_weighed_68 (by decide) rfl rfl rfl ?_
        exact LIN n 0 (by omega)
  refine ko_aload_n (i := 0) dX5_weighed_0 rfl rfl ?_
  refine ko_iconst (v := 0) dX5_weighed_1 (by decide) ?_
  refine ko_put fl_X5_41 dX5_weighed_2 m0 rfl rfl (Nat.le_of_ble_eq_true rfl) ?_
  refine ko_h (ku_same m0) ?_
  refine ko_iload_n (i := 1) dX5_weighed_5 rfl rfl ?_
  refine ko_i2l dX5_weighed_6 ?_
  refine ko_lconst (v := 0) dX5_weighed_7 (by decide) ?_
  refine ko_aload_n (i := 0) dX5_weighed_8 rfl rfl ?_
  refine ko_callVr lk_X5_147 dX5_weighed_9 (fn_meveryone (n := n) (d := d - 1) m0) rfl rfl m0 rfl rfl (by omega) (by omega) (by omega) (Nat.le_of_ble_eq_true rfl) ?_
  refine ko_i2l dX5_weighed_12 ?_
  refine ko_callSr lk_X5_48 dX5_weighed_13 (fn_in (d := d - 1) (v := nI v) (a := 0) (b := evI (mN o))) rfl rfl (by omega) (by omega) (by omega) (Nat.le_of_ble_eq_true rfl) ?_
  first | refine ko_ifb_eq (tgt := 43) dX5_weighed_16 (by decide) (fun c_16 => ?_) (fun c_16 => ?_) | refine ko_if_eq (tgt := 43) dX5_weighed_16 (by decide) (fun c_16 => ?_) (fun c_16 => ?_)
  · first
      | exact absurd c_16 (by rw [r2, b1]; decide)
      | exact absurd c_28 (by rw [b2]; decide)
      | exact absurd c_40 (by rw [b3]; decide)
  · refine ko_iload_n (i := 2) dX5_weighed_19 rfl rfl ?_
    refine ko_i2l dX5_weighed_20 ?_
    refine ko_lconst (v := 0) dX5_weighed_21 (by decide) ?_
    refine ko_ldc2 dX5_weighed_22 fc_X5_166 ?_
    refine ko_callSr lk_X5_48 dX5_weighed_25 (fn_in (d := d - 1) (v := sum) (a := 0) (b := 45)) rfl rfl (by omega) (by omega) (by omega) (Nat.le_of_ble_eq_true rfl) ?_
    first | refine ko_ifb_eq (tgt := 43) dX5_weighed_28 (by decide) (fun c_28 => ?_) (fun c_28 => ?_) | refine ko_if_eq (tgt := 43) dX5_weighed_28 (by decide) (fun c_28 => ?_) (fun c_28 => ?_)
    · first
        | exact absurd c_16 (by rw [r2, b1]; decide)
        | exact absurd c_28 (by rw [b2]; decide)
        | exact absurd c_40 (by rw [b3]; decide)
    · refine ko_iload_n (i := 3) dX5_weighed_31 rfl rfl ?_
      refine ko_i2l dX5_weighed_32 ?_
      refine ko_lconst (v := 0) dX5_weighed_33 (by decide) ?_
      refine ko_ldc2 dX5_weighed_34 fc_X5_145 ?_
      refine ko_callSr lk_X5_48 dX5_weighed_37 (fn_in (d := d - 1) (v := w) (a := 0) (b := 2)) rfl rfl (by omega) (by omega) (by omega) (Nat.le_of_ble_eq_true rfl) ?_
      first | refine ko_ifb_ne (tgt := 46) dX5_weighed_40 (by decide) (fun c_40 => ?_) (fun c_40 => ?_) | refine ko_if_ne (tgt := 46) dX5_weighed_40 (by decide) (fun c_40 => ?_) (fun c_40 => ?_)
      · refine ko_iconst (v := 0) dX5_weighed_46 (by decide) ?_
        refine ko_istore (i := 4) (lv' := [(0, _), (1, _), (2, _), (3, _), (4, _)]) dX5_weighed_47 (by decide) rfl rfl rfl ?_
        refine ko_iload_n (i := 1) dX5_weighed_49 rfl rfl ?_
        refine ko_istore (i := 5) (lv' := [(0, _), (1, _), (2, _), (3, _), (4, _), (5, _)]) dX5_weighed_50 (by decide) rfl rfl rfl ?_
        refine ko_iconst (v := 0) dX5_weighed_52 (by decide) ?_
        refine ko_istore (i := 6) (lv' := [(0, _), (1, _), (2, _), (3, _), (4, _), (5, _), (6, _)]) dX5_weighed_53 (by decide) rfl rfl rfl ?_
        refine ko_iconst (v := 0) dX5_weighed_55 (by decide) ?_
        refine ko_istore (i := 7) (lv' := [(0, _), (1, _), (2, _), (3, _), (4, _), (5, _), (6, _), (7, _)]) dX5_weighed_56 (by decide) rfl rfl rfl ?_
        exact LOOP (v + 1) 0 (by omega)
      · first
          | exact absurd c_16 (by rw [r2, b1]; decide)
          | exact absurd c_28 (by rw [b2]; decide)
          | exact absurd c_40 (by rw [b3]; decide)
