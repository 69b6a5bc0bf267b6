/-! ===== the reference: all ways of serving, row by row ===== -/
def cO (v : PU) (n : Nat) : Nat → Nat
  | 0 => 0
  | k + 1 => cO v n k + if hbI (pOp v) (nI (n - (k + 1))) = true then 1 else 0
def Mk (v : PU) (n k : Nat) : Nat := (n + 1) ^ cO v n k
theorem cO_le (v : PU) (n : Nat) : ∀ k, cO v n k ≤ k
  | 0 => Nat.le_refl _
  | k + 1 => by
    have := cO_le v n k
    show cO v n k + (if _ then 1 else 0) ≤ k + 1
    split <;> omega
theorem Mk_pos (v : PU) (n k : Nat) : 0 < Mk v n k := Nat.pow_pos (by omega)
theorem Mk_le {v : PU} {n k : Nat} (hn : n ≤ 5) (hk : k ≤ 5) : Mk v n k ≤ 7776 := by
  have h1 : (n + 1) ^ cO v n k ≤ 6 ^ cO v n k := Nat.pow_le_pow_left (by omega) _
  have h2 : 6 ^ cO v n k ≤ 6 ^ 5 := Nat.pow_le_pow_right (by omega) (Nat.le_trans (cO_le v n k) hk)
  exact Nat.le_trans h1 (Nat.le_trans h2 (by decide))
theorem Mk_op {v : PU} {n k : Nat} (h : hbI (pOp v) (nI (n - (k + 1))) = true) : Mk v n (k + 1) = Mk v n k * (n + 1) := by
  show (n + 1) ^ (cO v n k + if hbI (pOp v) (nI (n - (k + 1))) = true then 1 else 0) = _
  rw [if_pos h, Nat.pow_succ]
  rfl
theorem Mk_no {v : PU} {n k : Nat} (h : hbI (pOp v) (nI (n - (k + 1))) = false) : Mk v n (k + 1) = Mk v n k := by
  show (n + 1) ^ (cO v n k + if hbI (pOp v) (nI (n - (k + 1))) = true then 1 else 0) = _
  rw [if_neg (by rw [h]; decide), Nat.add_zero]
  rfl
def rwE (v : PU) (n : Nat) (bY : Int32) : Nat → Int32 → Int32 → Int32 → Int32 → Nat → Nat → Option (Int32 × Int32 × Int32)
  | 0, _, oz, sv, td, _, _ => some (sv, oz, td)
  | k + 1, us, oz, sv, td, lf, pt =>
    if hbI (pOp v) (nI (n - (k + 1))) = true then
      if lf / (pt / (n + 1)) = 0 then rwE v n bY k us oz sv (10 * td) (lf % (pt / (n + 1))) (pt / (n + 1))
      else if (hbI bY (nI (lf / (pt / (n + 1)) - 1)) && (!hbI us (nI (lf / (pt / (n + 1)) - 1)) && mayI v (nI (lf / (pt / (n + 1)) - 1)) (nI (n - (k + 1))))) = true then
        rwE v n bY k (us ||| 1 <<< (nI (lf / (pt / (n + 1)) - 1) &&& 31)) (oz + ozI v (nI (lf / (pt / (n + 1)) - 1))) (sv + 1) (10 * td + nI (lf / (pt / (n + 1)) - 1) + 1) (lf % (pt / (n + 1))) (pt / (n + 1))
      else none
    else rwE v n bY k us oz sv td lf pt
def cmR (s : SU) : Option (Int32 × Int32 × Int32) → SU
  | none => s
  | some x => cmU s x.1 x.2.1 x.2.2
def blk (v : PU) (n : Nat) (bY : Int32) (k : Nat) (us oz sv td : Int32) (pt : Nat) : Nat → SU → SU
  | 0, s => s
  | c + 1, s => cmR (blk v n bY k us oz sv td pt c s) (rwE v n bY k us oz sv td c pt)
def fH (h : kx_H) (m : Nat) (o : MO) (s : SU) : kx_H := kx_up h m (kmo m (mTs o, mPl o, mN o, mRp o, mAc o, mSd o, s.2.1, s.2.2.1, s.2.2.2, mRm o, mRf o))
section FH
variable {h : kx_H} {m : Nat} {o : MO} {s : SU}
theorem fH_o : fH h m o s m = some (kmo m (mTs o, mPl o, mN o, mRp o, mAc o, mSd o, s.2.1, s.2.2.1, s.2.2.2, mRm o, mRf o)) := ku_s
theorem fH_n {q : Nat} (hq : q ≠ m) : fH h m o s q = h q := ku_n hq
end FH
set_option maxRecDepth 20000 in
theorem fs_F {G : kx_G} {d N m q : Nat} {h : kx_H} {o : MO} {s : SU} {w1 w2 c3 c4 c5 c6 c7 c8 c9 c10 c11 : Value} {res : kx_R} (K : kx_Ok mX5_findServed d 0 0 G 0 0 292 [(0, .ref m), (1, w1), (2, w2), (3, c3), (4, c4), (5, c5)] [] N (fH h m o s) res) : kx_Ok mX5_findServed d 0 0 G 0 0 74 [(0, .ref m), (1, w1), (2, w2), (3, c3), (4, c4), (5, c5), (6, c6), (7, c7), (8, c8), (9, c9), (10, c10), (11, c11), (12, .int 0), (13, .int (nI q))] [] N (fH h m o s) res := by
  refine ko_iload (i := 13) dX5_findServed_74 rfl ?_
  refine ko_aload_n (i := 0) dX5_findServed_76 rfl rfl ?_
  refine ko_get fl_X5_45 dX5_findServed_77 fH_o rfl ?_
  refine ko_icmp_ge (tgt := 242) dX5_findServed_80 (by decide) (fun c_80 => ?_) (fun c_80 => ?_)
  · refine ko_iload (i := 12) dX5_findServed_242 rfl ?_
    refine ko_if_eq (tgt := 292) dX5_findServed_244 (by decide) (fun c_244 => ?_) (fun c_244 => ?_)
    · exact ko_keep [0, 1, 2, 3, 4, 5] rfl K
    · exact absurd rfl c_244
  · refine ko_iload (i := 12) dX5_findServed_83 rfl ?_
    refine ko_if_eq (tgt := 242) dX5_findServed_85 (by decide) (fun c_85 => ?_) (fun c_85 => ?_)
    · refine ko_iload (i := 12) dX5_findServed_242 rfl ?_
      refine ko_if_eq (tgt := 292) dX5_findServed_244 (by decide) (fun c_244 => ?_) (fun c_244 => ?_)
      · exact ko_keep [0, 1, 2, 3, 4, 5] rfl K
      · exact absurd rfl c_244
    · exact absurd rfl c_85
set_option maxRecDepth 20000 in
theorem fs_E {G : kx_G} {d N m q : Nat} {h : kx_H} {o : MO} {s : SU} {w1 w2 c3 c4 c5 c6 c10 c11 : Value} {oz sv td : Int32} {res : kx_R} (K : kx_Ok mX5_findServed d 0 0 G 0 0 292 [(0, .ref m), (1, w1), (2, w2), (3, c3), (4, c4), (5, c5)] [] N (fH h m o (cmU s sv oz td)) res) : kx_Ok mX5_findServed d 0 0 G 0 0 242 [(0, .ref m), (1, w1), (2, w2), (3, c3), (4, c4), (5, c5), (6, c6), (7, .int oz), (8, .int sv), (9, .int td), (10, c10), (11, c11), (12, .int 1), (13, .int (nI q))] [] N (fH h m o s) res := by
  refine ko_iload (i := 12) dX5_findServed_242 rfl ?_
  refine ko_if_eq (tgt := 292) dX5_findServed_244 (by decide) (fun c_244 => ?_) (fun c_244 => ?_)
  · exact absurd c_244 (by decide)
  · refine ko_iload (i := 8) dX5_findServed_247 rfl ?_
    refine ko_aload_n (i := 0) dX5_findServed_249 rfl rfl ?_
    refine ko_get fl_X5_133 dX5_findServed_250 fH_o rfl ?_
    refine ko_icmp_gt (tgt := 274) dX5_findServed_253 (by decide) (fun c_253 => ?_) (fun c_253 => ?_)
    · have c_253 : s.2.1 < sv := c_253
      refine ko_aload_n (i := 0) dX5_findServed_274 rfl rfl ?_
      refine ko_iload (i := 8) dX5_findServed_275 rfl ?_
      refine ko_put fl_X5_133 dX5_findServed_277 fH_o rfl rfl (Nat.le_of_ble_eq_true rfl) ?_
      refine ko_aload_n (i := 0) dX5_findServed_280 rfl rfl ?_
      refine ko_iload (i := 7) dX5_findServed_281 rfl ?_
      refine ko_put fl_X5_136 dX5_findServed_283 ku_s rfl rfl (Nat.le_of_ble_eq_true rfl) ?_
      refine ko_h (ku_ku _ _ _ _) ?_
      refine ko_aload_n (i := 0) dX5_findServed_286 rfl rfl ?_
      refine ko_iload (i := 9) dX5_findServed_287 rfl ?_
      refine ko_put fl_X5_139 dX5_findServed_289 ku_s rfl rfl (Nat.le_of_ble_eq_true rfl) ?_
      refine ko_h (ku_ku _ _ _ _) ?_
      refine ko_h (ku_ku _ _ _ _) ?_
      refine ko_h (h' := fH h m o (s.1, sv, oz, td)) rfl ?_
      first
        | (rw [show cmU s sv oz td = s from by unfold cmU; rw [if_neg c_253, if_pos c_262]] at K; exact ko_keep [0, 1, 2, 3, 4, 5] rfl K)
        | (rw [show cmU s sv oz td = s from by unfold cmU; rw [if_neg c_253, if_neg (fun z => z c_262), if_pos c_271]] at K; exact ko_keep [0, 1, 2, 3, 4, 5] rfl K)
        | (rw [show cmU s sv oz td = (s.1, sv, oz, td) from by unfold cmU; rw [if_pos c_253]] at K; exact ko_keep [0, 1, 2, 3, 4, 5] rfl K)
        | (rw [show cmU s sv oz td = (s.1, sv, oz, td) from by unfold cmU; rw [if_neg c_253, if_neg (fun z => z c_262), if_neg c_271]] at K; exact ko_keep [0, 1, 2, 3, 4, 5] rfl K)
    · have c_253 : ¬ s.2.1 < sv := c_253
      refine ko_iload (i := 8) dX5_findServed_256 rfl ?_
      refine ko_aload_n (i := 0) dX5_findServed_258 rfl rfl ?_
      refine ko_get fl_X5_133 dX5_findServed_259 fH_o rfl ?_
      refine ko_icmp_ne (tgt := 292) dX5_findServed_262 (by decide) (fun c_262 => ?_) (fun c_262 => ?_)
      · have c_262 : ¬ sv = s.2.1 := c_262
        first
          | (rw [show cmU s sv oz td = s from by unfold cmU; rw [if_neg c_253, if_pos c_262]] at K; exact ko_keep [0, 1, 2, 3, 4, 5] rfl K)
          | (rw [show cmU s sv oz td = s from by unfold cmU; rw [if_neg c_253, if_neg (fun z => z c_262), if_pos c_271]] at K; exact ko_keep [0, 1, 2, 3, 4, 5] rfl K)
          | (rw [show cmU s sv oz td = (s.1, sv, oz, td) from by unfold cmU; rw [if_pos c_253]] at K; exact ko_keep [0, 1, 2, 3, 4, 5] rfl K)
          | (rw [show cmU s sv oz td = (s.1, sv, oz, td) from by unfold cmU; rw [if_neg c_253, if_neg (fun z => z c_262), if_neg c_271]] at K; exact ko_keep [0, 1, 2, 3, 4, 5] rfl K)
      · have c_262 : sv = s.2.1 := c_262
        refine ko_iload (i := 7) dX5_findServed_265 rfl ?_
        refine ko_aload_n (i := 0) dX5_findServed_267 rfl rfl ?_
        refine ko_get fl_X5_136 dX5_findServed_268 fH_o rfl ?_
        refine ko_icmp_ge (tgt := 292) dX5_findServed_271 (by decide) (fun c_271 => ?_) (fun c_271 => ?_)
        · have c_271 : s.2.2.1 ≤ oz := c_271
          first
            | (rw [show cmU s sv oz td = s from by unfold cmU; rw [if_neg c_253, if_pos c_262]] at K; exact ko_keep [0, 1, 2, 3, 4, 5] rfl K)
            | (rw [show cmU s sv oz td = s from by unfold cmU; rw [if_neg c_253, if_neg (fun z => z c_262), if_pos c_271]] at K; exact ko_keep [0, 1, 2, 3, 4, 5] rfl K)
            | (rw [show cmU s sv oz td = (s.1, sv, oz, td) from by unfold cmU; rw [if_pos c_253]] at K; exact ko_keep [0, 1, 2, 3, 4, 5] rfl K)
            | (rw [show cmU s sv oz td = (s.1, sv, oz, td) from by unfold cmU; rw [if_neg c_253, if_neg (fun z => z c_262), if_neg c_271]] at K; exact ko_keep [0, 1, 2, 3, 4, 5] rfl K)
        · have c_271 : ¬ s.2.2.1 ≤ oz := c_271
          refine ko_aload_n (i := 0) dX5_findServed_274 rfl rfl ?_
          refine ko_iload (i := 8) dX5_findServed_275 rfl ?_
          refine ko_put fl_X5_133 dX5_findServed_277 fH_o rfl rfl (Nat.le_of_ble_eq_true rfl) ?_
          refine ko_aload_n (i := 0) dX5_findServed_280 rfl rfl ?_
          refine ko_iload (i := 7) dX5_findServed_281 rfl ?_
          refine ko_put fl_X5_136 dX5_findServed_283 ku_s rfl rfl (Nat.le_of_ble_eq_true rfl) ?_
          refine ko_h (ku_ku _ _ _ _) ?_
          refine ko_aload_n (i := 0) dX5_findServed_286 rfl rfl ?_
          refine ko_iload (i := 9) dX5_findServed_287 rfl ?_
          refine ko_put fl_X5_139 dX5_findServed_289 ku_s rfl rfl (Nat.le_of_ble_eq_true rfl) ?_
          refine ko_h (ku_ku _ _ _ _) ?_
          refine ko_h (ku_ku _ _ _ _) ?_
          refine ko_h (h' := fH h m o (s.1, sv, oz, td)) rfl ?_
          first
            | (rw [show cmU s sv oz td = s from by unfold cmU; rw [if_neg c_253, if_pos c_262]] at K; exact ko_keep [0, 1, 2, 3, 4, 5] rfl K)
            | (rw [show cmU s sv oz td = s from by unfold cmU; rw [if_neg c_253, if_neg (fun z => z c_262), if_pos c_271]] at K; exact ko_keep [0, 1, 2, 3, 4, 5] rfl K)
            | (rw [show cmU s sv oz td = (s.1, sv, oz, td) from by unfold cmU; rw [if_pos c_253]] at K; exact ko_keep [0, 1, 2, 3, 4, 5] rfl K)
            | (rw [show cmU s sv oz td = (s.1, sv, oz, td) from by unfold cmU; rw [if_neg c_253, if_neg (fun z => z c_262), if_neg c_271]] at K; exact ko_keep [0, 1, 2, 3, 4, 5] rfl K)
theorem z9 (x : Int32) : x + -1 + 1 = x := by
  rw [Int32.add_assoc, show (-1 : Int32) + 1 = 0 from by decide, Int32.add_zero]
set_option maxRecDepth 20000 in
theorem fs_Q {G : kx_G} {d N m t n : Nat} {h : kx_H} {o : MO} {Kf F : Nat → Int32} {v : PU} {bY c3 c4 c5 : Int32} {res : kx_R} {s : SU} (o0 : h m = some (kmo m o)) (r2 : mN o = nI n) (k0 : h (m + 2) = some (ka 5 Kf)) (hk : ∀ j, j < n → Kf j = pKd v j) (t0 : h t = some (ka 43 F)) (htm : t ≠ m) (hp : pgR F v) (hw : WF v n) (hd : 4 ≤ d) : ∀ (k q : Nat) (us oz sv td : Int32) (lf pt : Nat), k + q = n → pt = Mk v n k → lf < pt → kx_Ok mX5_findServed d 0 0 G 0 0 292 [(0, .ref m), (1, .ref t), (2, .int bY), (3, .int c3), (4, .int c4), (5, .int c5)] [] N (fH h m o (cmR s (rwE v n bY k us oz sv td lf pt))) res → kx_Ok mX5_findServed d 0 0 G 0 0 74 [(0, .ref m), (1, .ref t), (2, .int bY), (3, .int c3), (4, .int c4), (5, .int c5), (6, .int us), (7, .int oz), (8, .int sv), (9, .int td), (10, .int (nI lf)), (11, .int (nI pt)), (12, .int 1), (13, .int (nI q))] [] N (fH h m o s) res := by
  have hn5 := hw.2.1
  intro k
  induction k with
  | zero =>
    intro q us oz sv td lf pt hkq hpt hlf K
    refine ko_iload (i := 13) dX5_findServed_74 rfl ?_
    refine ko_aload_n (i := 0) dX5_findServed_76 rfl rfl ?_
    refine ko_get fl_X5_45 dX5_findServed_77 fH_o rfl ?_
    refine ko_icmp_ge (tgt := 242) dX5_findServed_80 (by decide) (fun c_80 => ?_) (fun c_80 => ?_)
    · exact fs_E K
    · exact absurd (show mN o ≤ nI q by rw [r2, show q = n by omega]; exact nI_le (Nat.le_refl n) (by omega)) c_80
  | succ k ih =>
    intro q us oz sv td lf pt hkq hpt hlf K
    have hq9 : n - (k + 1) = q := by omega
    have hpm : pt ≤ 7776 := by rw [hpt]; exact Mk_le hn5 (by omega)
    refine ko_iload (i := 13) dX5_findServed_74 rfl ?_
    refine ko_aload_n (i := 0) dX5_findServed_76 rfl rfl ?_
    refine ko_get fl_X5_45 dX5_findServed_77 fH_o rfl ?_
    refine ko_icmp_ge (tgt := 242) dX5_findServed_80 (by decide) (fun c_80 => ?_) (fun c_80 => ?_)
    · exact absurd (show nI n ≤ nI q by rw [← r2]; exact c_80) (nI_ge (by omega) (by omega))
    · refine ko_iload (i := 12) dX5_findServed_83 rfl ?_
      refine ko_if_eq (tgt := 242) dX5_findServed_85 (by decide) (fun c_85 => ?_) (fun c_85 => ?_)
      · exact absurd c_85 (by decide)
      · refine ko_aload_n (i := 1) dX5_findServed_88 rfl rfl ?_
        refine ko_bipush (v := 15) dX5_findServed_89 (by decide) ?_
        refine ko_iald dX5_findServed_91 ((fH_n htm).trans t0) (in15 (i := 15) (by omega)) ?_
        refine ko_st (st' := [.int (F 15)]) rfl ?_
        rw [hp.2.2.2.1]
        refine ko_iload (i := 13) dX5_findServed_92 rfl ?_
        refine ko_callSr lk_X5_63 dX5_findServed_94 (fn_mhas (by omega)) rfl rfl (by omega) (by omega) (by omega) (Nat.le_of_ble_eq_true rfl) ?_
        first | refine ko_ifb_eq (tgt := 236) dX5_findServed_97 (by decide) (fun c_97 => ?_) (fun c_97 => ?_) | refine ko_if_eq (tgt := 236) dX5_findServed_97 (by decide) (fun c_97 => ?_) (fun c_97 => ?_)
        · refine ko_inc1 (i := 13) (lv' := [(0, _), (1, _), (2, _), (3, _), (4, _), (5, _), (6, _), (7, _), (8, _), (9, _), (10, _), (11, _), (12, _), (13, _)]) dX5_findServed_236 rfl (by decide) rfl rfl rfl ?_
          refine ko_goto (tgt := 74) dX5_findServed_239 (by decide) ?_
          have hop9 : hbI (pOp v) (nI (n - (k + 1))) = false := by rw [hq9]; exact c_97
          have eE : rwE v n bY (k + 1) us oz sv td lf pt = rwE v n bY k us oz sv td lf pt := by
            rw [rwE, if_neg (by rw [hop9]; decide)]
          rw [eE] at K
          refine ko_lv (by rw [nI_succ]) (ih (q + 1) us oz sv td lf pt (by omega) (by rw [hpt, Mk_no hop9]) hlf K)
        · have hop9 : hbI (pOp v) (nI (n - (k + 1))) = true := by rw [hq9]; exact c_97
          have hM9 := Mk_op hop9
          have e1 : pt / (n + 1) = Mk v n k := by rw [hpt, hM9]; exact Nat.mul_div_cancel _ (by omega)
          have hz9 : 0 < pt / (n + 1) := by rw [e1]; exact Mk_pos v n k
          have hb1 : (pt / (n + 1)) = Mk v n k := e1
          have hb2 : (lf % (pt / (n + 1))) < (pt / (n + 1)) := Nat.mod_lt _ hz9
          have hb3 : lf / (pt / (n + 1)) ≤ n := by
            rw [e1]
            exact Nat.le_of_lt_succ ((Nat.div_lt_iff_lt_mul (Mk_pos v n k)).mpr (by rw [Nat.mul_comm, ← hM9, ← hpt]; exact hlf))
          have hpl : (pt / (n + 1)) ≤ pt := Nat.div_le_self _ _
          refine ko_iload (i := 11) dX5_findServed_100 rfl ?_
          refine ko_aload_n (i := 0) dX5_findServed_102 rfl rfl ?_
          refine ko_get fl_X5_45 dX5_findServed_103 fH_o rfl ?_
          refine ko_iconst (v := 1) dX5_findServed_106 (by decide) ?_
          refine ko_iadd dX5_findServed_107 ?_
          refine ko_st (st' := [.int (nI (n + 1)), .int (nI pt)]) (by rw [nI_succ]; exact congrArg (fun z => [Value.int (z + 1), .int (nI pt)]) r2) ?_
          refine ko_idiv dX5_findServed_108 (nI_ne0 (by omega) (by omega)) ?_
          rw [pk_div (by omega) (by omega) (by omega)]
          refine ko_istore (i := 11) (lv' := [(0, _), (1, _), (2, _), (3, _), (4, _), (5, _), (6, _), (7, _), (8, _), (9, _), (10, _), (11, _), (12, _), (13, _)]) dX5_findServed_109 (by decide) rfl rfl rfl ?_
          refine ko_iload (i := 10) dX5_findServed_111 rfl ?_
          refine ko_iload (i := 11) dX5_findServed_113 rfl ?_
          refine ko_idiv dX5_findServed_115 (nI_ne0 hz9 (by omega)) ?_
          rw [pk_div (by omega) hz9 (by omega)]
          refine ko_iconst (v := 1) dX5_findServed_116 (by decide) ?_
          refine ko_isub dX5_findServed_117 ?_
          refine ko_istore (i := 14) (lv' := [(0, _), (1, _), (2, _), (3, _), (4, _), (5, _), (6, _), (7, _), (8, _), (9, _), (10, _), (11, _), (12, _), (13, _), (14, _)]) dX5_findServed_118 (by decide) rfl rfl rfl ?_
          refine ko_iload (i := 10) dX5_findServed_120 rfl ?_
          refine ko_iload (i := 11) dX5_findServed_122 rfl ?_
          refine ko_irem dX5_findServed_124 (nI_ne0 hz9 (by omega)) ?_
          rw [pk_rem (by omega) hz9 (by omega)]
          refine ko_istore (i := 10) (lv' := [(0, _), (1, _), (2, _), (3, _), (4, _), (5, _), (6, _), (7, _), (8, _), (9, _), (10, _), (11, _), (12, _), (13, _), (14, _)]) dX5_findServed_125 (by decide) rfl rfl rfl ?_
          rcases Nat.eq_zero_or_pos (lf / (pt / (n + 1))) with e9 | e9
          · rw [e9, show nI 0 - 1 = (-1 : Int32) from by decide]
            refine ko_iload (i := 14) dX5_findServed_127 rfl ?_
            refine ko_if_lt (tgt := 163) dX5_findServed_129 (by decide) (fun c_129 => ?_) (fun c_129 => ?_)
            · refine ko_iconst (v := 1) dX5_findServed_163 (by decide) ?_
              refine ko_goto (tgt := 168) dX5_findServed_164 (by decide) ?_
              refine ko_istore (i := 12) (lv' := [(0, _), (1, _), (2, _), (3, _), (4, _), (5, _), (6, _), (7, _), (8, _), (9, _), (10, _), (11, _), (12, _), (13, _), (14, _)]) dX5_findServed_168 (by decide) rfl rfl rfl ?_
              refine ko_iload (i := 6) dX5_findServed_170 rfl ?_
              refine ko_iload (i := 14) dX5_findServed_172 rfl ?_
              refine ko_if_ge (tgt := 181) dX5_findServed_174 (by decide) (fun c_174 => ?_) (fun c_174 => ?_)
              · exact absurd c_174 (by decide)
              · refine ko_iconst (v := 0) dX5_findServed_177 (by decide) ?_
                refine ko_goto (tgt := 185) dX5_findServed_178 (by decide) ?_
                refine ko_ior dX5_findServed_185 ?_
                refine ko_istore (i := 6) (lv' := [(0, _), (1, _), (2, _), (3, _), (4, _), (5, _), (6, _), (7, _), (8, _), (9, _), (10, _), (11, _), (12, _), (13, _), (14, _)]) dX5_findServed_186 (by decide) rfl rfl rfl ?_
                refine ko_iload (i := 7) dX5_findServed_188 rfl ?_
                refine ko_iload (i := 14) dX5_findServed_190 rfl ?_
                refine ko_if_ge (tgt := 199) dX5_findServed_192 (by decide) (fun c_192 => ?_) (fun c_192 => ?_)
                · exact absurd c_192 (by decide)
                · refine ko_iconst (v := 0) dX5_findServed_195 (by decide) ?_
                  refine ko_goto (tgt := 206) dX5_findServed_196 (by decide) ?_
                  refine ko_iadd dX5_findServed_206 ?_
                  refine ko_istore (i := 7) (lv' := [(0, _), (1, _), (2, _), (3, _), (4, _), (5, _), (6, _), (7, _), (8, _), (9, _), (10, _), (11, _), (12, _), (13, _), (14, _)]) dX5_findServed_207 (by decide) rfl rfl rfl ?_
                  refine ko_iload (i := 8) dX5_findServed_209 rfl ?_
                  refine ko_iload (i := 14) dX5_findServed_211 rfl ?_
                  refine ko_if_ge (tgt := 220) dX5_findServed_213 (by decide) (fun c_213 => ?_) (fun c_213 => ?_)
                  · exact absurd c_213 (by decide)
                  · refine ko_iconst (v := 0) dX5_findServed_216 (by decide) ?_
                    refine ko_goto (tgt := 221) dX5_findServed_217 (by decide) ?_
                    refine ko_iadd dX5_findServed_221 ?_
                    refine ko_istore (i := 8) (lv' := [(0, _), (1, _), (2, _), (3, _), (4, _), (5, _), (6, _), (7, _), (8, _), (9, _), (10, _), (11, _), (12, _), (13, _), (14, _)]) dX5_findServed_222 (by decide) rfl rfl rfl ?_
                    refine ko_bipush (v := 10) dX5_findServed_224 (by decide) ?_
                    refine ko_iload (i := 9) dX5_findServed_226 rfl ?_
                    refine ko_imul dX5_findServed_228 ?_
                    refine ko_iload (i := 14) dX5_findServed_229 rfl ?_
                    refine ko_iadd dX5_findServed_231 ?_
                    refine ko_iconst (v := 1) dX5_findServed_232 (by decide) ?_
                    refine ko_iadd dX5_findServed_233 ?_
                    refine ko_istore (i := 9) (lv' := [(0, _), (1, _), (2, _), (3, _), (4, _), (5, _), (6, _), (7, _), (8, _), (9, _), (10, _), (11, _), (12, _), (13, _), (14, _)]) dX5_findServed_234 (by decide) rfl rfl rfl ?_
                    refine ko_inc1 (i := 13) (lv' := [(0, _), (1, _), (2, _), (3, _), (4, _), (5, _), (6, _), (7, _), (8, _), (9, _), (10, _), (11, _), (12, _), (13, _), (14, _)]) dX5_findServed_236 rfl (by decide) rfl rfl rfl ?_
                    refine ko_goto (tgt := 74) dX5_findServed_239 (by decide) ?_
                    have eE : rwE v n bY (k + 1) us oz sv td lf pt = rwE v n bY k us oz sv (10 * td) (lf % (pt / (n + 1))) (pt / (n + 1)) := by
                      rw [rwE, if_pos hop9, if_pos e9]
                    rw [eE] at K
                    rw [or0, Int32.add_zero, Int32.add_zero, z9]
                    refine ko_keep [0, 1, 2, 3, 4, 5, 6, 7, 8, 9, 10, 11, 12, 13] (lv' := [(0, .ref m), (1, .ref t), (2, .int bY), (3, .int c3), (4, .int c4), (5, .int c5), (6, .int us), (7, .int oz), (8, .int sv), (9, .int (10 * td)), (10, .int (nI (lf % (pt / (n + 1))))), (11, .int (nI (pt / (n + 1)))), (12, .int 1), (13, .int (nI (q + 1)))]) (by rw [nI_succ]; rfl) (ih (q + 1) us oz sv (10 * td) (lf % (pt / (n + 1))) (pt / (n + 1)) (by omega) hb1 hb2 K)
            · exact absurd (show (-1 : Int32) < 0 by decide) c_129
          · obtain ⟨j, ej⟩ : ∃ j, lf / (pt / (n + 1)) = j + 1 := ⟨lf / (pt / (n + 1)) - 1, by omega⟩
            have ej9 : lf / (pt / (n + 1)) - 1 = j := by omega
            have hj : j < n := by omega
            rw [ej, nI_pred]
            refine ko_iload (i := 14) dX5_findServed_127 rfl ?_
            refine ko_if_lt (tgt := 163) dX5_findServed_129 (by decide) (fun c_129 => ?_) (fun c_129 => ?_)
            · exact absurd (show nI j < 0 from c_129) (nI_pos (by omega))
            · refine ko_iload_n (i := 2) dX5_findServed_132 rfl rfl ?_
              refine ko_iload (i := 14) dX5_findServed_133 rfl ?_
              refine ko_callSr lk_X5_63 dX5_findServed_135 (fn_mhas (by omega)) rfl rfl (by omega) (by omega) (by omega) (Nat.le_of_ble_eq_true rfl) ?_
              first | refine ko_ifb_eq (tgt := 167) dX5_findServed_138 (by decide) (fun c_138 => ?_) (fun c_138 => ?_) | refine ko_if_eq (tgt := 167) dX5_findServed_138 (by decide) (fun c_138 => ?_) (fun c_138 => ?_)
              · refine ko_iconst (v := 0) dX5_findServed_167 (by decide) ?_
                refine ko_istore (i := 12) (lv' := [(0, _), (1, _), (2, _), (3, _), (4, _), (5, _), (6, _), (7, _), (8, _), (9, _), (10, _), (11, _), (12, _), (13, _), (14, _)]) dX5_findServed_168 (by decide) rfl rfl rfl ?_
                refine ko_iload (i := 6) dX5_findServed_170 rfl ?_
                refine ko_iload (i := 14) dX5_findServed_172 rfl ?_
                refine ko_if_ge (tgt := 181) dX5_findServed_174 (by decide) (fun c_174 => ?_) (fun c_174 => ?_)
                · refine ko_iconst (v := 1) dX5_findServed_181 (by decide) ?_
                  refine ko_iload (i := 14) dX5_findServed_182 rfl ?_
                  refine ko_ishl dX5_findServed_184 ?_
                  refine ko_ior dX5_findServed_185 ?_
                  refine ko_istore (i := 6) (lv' := [(0, _), (1, _), (2, _), (3, _), (4, _), (5, _), (6, _), (7, _), (8, _), (9, _), (10, _), (11, _), (12, _), (13, _), (14, _)]) dX5_findServed_186 (by decide) rfl rfl rfl ?_
                  refine ko_iload (i := 7) dX5_findServed_188 rfl ?_
                  refine ko_iload (i := 14) dX5_findServed_190 rfl ?_
                  refine ko_if_ge (tgt := 199) dX5_findServed_192 (by decide) (fun c_192 => ?_) (fun c_192 => ?_)
                  · refine ko_aload_n (i := 0) dX5_findServed_199 rfl rfl ?_
                    refine ko_aload_n (i := 1) dX5_findServed_200 rfl rfl ?_
                    refine ko_iload (i := 14) dX5_findServed_201 rfl ?_
                    refine ko_callVr lk_X5_97 dX5_findServed_203 (fn_mounces (d := d - 1) fH_o ((fH_n (by omega)).trans k0) hk ((fH_n htm).trans t0) hp hw hj) rfl rfl fH_o rfl rfl (by omega) (by omega) (by omega) (Nat.le_of_ble_eq_true rfl) ?_
                    refine ko_iadd dX5_findServed_206 ?_
                    refine ko_istore (i := 7) (lv' := [(0, _), (1, _), (2, _), (3, _), (4, _), (5, _), (6, _), (7, _), (8, _), (9, _), (10, _), (11, _), (12, _), (13, _), (14, _)]) dX5_findServed_207 (by decide) rfl rfl rfl ?_
                    refine ko_iload (i := 8) dX5_findServed_209 rfl ?_
                    refine ko_iload (i := 14) dX5_findServed_211 rfl ?_
                    refine ko_if_ge (tgt := 220) dX5_findServed_213 (by decide) (fun c_213 => ?_) (fun c_213 => ?_)
                    · refine ko_iconst (v := 1) dX5_findServed_220 (by decide) ?_
                      refine ko_iadd dX5_findServed_221 ?_
                      refine ko_istore (i := 8) (lv' := [(0, _), (1, _), (2, _), (3, _), (4, _), (5, _), (6, _), (7, _), (8, _), (9, _), (10, _), (11, _), (12, _), (13, _), (14, _)]) dX5_findServed_222 (by decide) rfl rfl rfl ?_
                      refine ko_bipush (v := 10) dX5_findServed_224 (by decide) ?_
                      refine ko_iload (i := 9) dX5_findServed_226 rfl ?_
                      refine ko_imul dX5_findServed_228 ?_
                      refine ko_iload (i := 14) dX5_findServed_229 rfl ?_
                      refine ko_iadd dX5_findServed_231 ?_
                      refine ko_iconst (v := 1) dX5_findServed_232 (by decide) ?_
                      refine ko_iadd dX5_findServed_233 ?_
                      refine ko_istore (i := 9) (lv' := [(0, _), (1, _), (2, _), (3, _), (4, _), (5, _), (6, _), (7, _), (8, _), (9, _), (10, _), (11, _), (12, _), (13, _), (14, _)]) dX5_findServed_234 (by decide) rfl rfl rfl ?_
                      refine ko_inc1 (i := 13) (lv' := [(0, _), (1, _), (2, _), (3, _), (4, _), (5, _), (6, _), (7, _), (8, _), (9, _), (10, _), (11, _), (12, _), (13, _), (14, _)]) dX5_findServed_236 rfl (by decide) rfl rfl rfl ?_
                      refine ko_goto (tgt := 74) dX5_findServed_239 (by decide) ?_
                      first
                        | (have eB : (hbI bY (nI j) && (!hbI us (nI j) && mayI v (nI j) (nI q))) = true := by simp [c_129, c_138, c_174, c_192, c_213]
                           have eE : rwE v n bY (k + 1) us oz sv td lf pt = rwE v n bY k (us ||| 1 <<< (nI j &&& 31)) (oz + ozI v (nI j)) (sv + 1) (10 * td + nI j + 1) (lf % (pt / (n + 1))) (pt / (n + 1)) := by
                             rw [rwE, if_pos hop9, if_neg (by omega : ¬ lf / (pt / (n + 1)) = 0), ej9, hq9, if_pos eB]
                           rw [eE] at K
                           refine ko_keep [0, 1, 2, 3, 4, 5, 6, 7, 8, 9, 10, 11, 12, 13] (lv' := [(0, .ref m), (1, .ref t), (2, .int bY), (3, .int c3), (4, .int c4), (5, .int c5), (6, .int (us ||| 1 <<< (nI j &&& 31))), (7, .int (oz + ozI v (nI j))), (8, .int (sv + 1)), (9, .int (10 * td + nI j + 1)), (10, .int (nI (lf % (pt / (n + 1))))), (11, .int (nI (pt / (n + 1)))), (12, .int 1), (13, .int (nI (q + 1)))]) (by rw [nI_succ]; rfl) (ih (q + 1) _ _ _ _ (lf % (pt / (n + 1))) (pt / (n + 1)) (by omega) hb1 hb2 K))
                        | (have eB : (hbI bY (nI j) && (!hbI us (nI j) && mayI v (nI j) (nI q))) = false := by simp [c_129, c_138, c_174, c_192, c_213]
                           have eE : rwE v n bY (k + 1) us oz sv td lf pt = none := by
                             rw [rwE, if_pos hop9, if_neg (by omega : ¬ lf / (pt / (n + 1)) = 0), ej9, hq9, if_neg (by rw [eB]; decide)]
                           rw [eE] at K
                           refine ko_keep [0, 1, 2, 3, 4, 5, 6, 7, 8, 9, 10, 11, 12, 13] (lv' := [(0, .ref m), (1, .ref t), (2, .int bY), (3, .int c3), (4, .int c4), (5, .int c5), (6, .int _), (7, .int _), (8, .int _), (9, .int _), (10, .int (nI (lf % (pt / (n + 1))))), (11, .int (nI (pt / (n + 1)))), (12, .int 0), (13, .int (nI (q + 1)))]) (by rw [nI_succ]; rfl) (fs_F K))
                    · exact absurd (nI_pos' (n := j) (by omega)) c_213
                  · exact absurd (nI_pos' (n := j) (by omega)) c_192
                · exact absurd (nI_pos' (n := j) (by omega)) c_174
              · refine ko_iload (i := 6) dX5_findServed_141 rfl ?_
                refine ko_iload (i := 14) dX5_findServed_143 rfl ?_
                refine ko_callSr lk_X5_63 dX5_findServed_145 (fn_mhas (by omega)) rfl rfl (by omega) (by omega) (by omega) (Nat.le_of_ble_eq_true rfl) ?_
                first | refine ko_ifb_ne (tgt := 167) dX5_findServed_148 (by decide) (fun c_148 => ?_) (fun c_148 => ?_) | refine ko_if_ne (tgt := 167) dX5_findServed_148 (by decide) (fun c_148 => ?_) (fun c_148 => ?_)
                · refine ko_iconst (v := 0) dX5_findServed_167 (by decide) ?_
                  refine ko_istore (i := 12) (lv' := [(0, _), (1, _), (2, _), (3, _), (4, _), (5, _), (6, _), (7, _), (8, _), (9, _), (10, _), (11, _), (12, _), (13, _), (14, _)]) dX5_findServed_168 (by decide) rfl rfl rfl ?_
                  refine ko_iload (i := 6) dX5_findServed_170 rfl ?_
                  refine ko_iload (i := 14) dX5_findServed_172 rfl ?_
                  refine ko_if_ge (tgt := 181) dX5_findServed_174 (by decide) (fun c_174 => ?_) (fun c_174 => ?_)
                  · refine ko_iconst (v := 1) dX5_findServed_181 (by decide) ?_
                    refine ko_iload (i := 14) dX5_findServed_182 rfl ?_
                    refine ko_ishl dX5_findServed_184 ?_
                    refine ko_ior dX5_findServed_185 ?_
                    refine ko_istore (i := 6) (lv' := [(0, _), (1, _), (2, _), (3, _), (4, _), (5, _), (6, _), (7, _), (8, _), (9, _), (10, _), (11, _), (12, _), (13, _), (14, _)]) dX5_findServed_186 (by decide) rfl rfl rfl ?_
                    refine ko_iload (i := 7) dX5_findServed_188 rfl ?_
                    refine ko_iload (i := 14) dX5_findServed_190 rfl ?_
                    refine ko_if_ge (tgt := 199) dX5_findServed_192 (by decide) (fun c_192 => ?_) (fun c_192 => ?_)
                    · refine ko_aload_n (i := 0) dX5_findServed_199 rfl rfl ?_
                      refine ko_aload_n (i := 1) dX5_findServed_200 rfl rfl ?_
                      refine ko_iload (i := 14) dX5_findServed_201 rfl ?_
                      refine ko_callVr lk_X5_97 dX5_findServed_203 (fn_mounces (d := d - 1) fH_o ((fH_n (by omega)).trans k0) hk ((fH_n htm).trans t0) hp hw hj) rfl rfl fH_o rfl rfl (by omega) (by omega) (by omega) (Nat.le_of_ble_eq_true rfl) ?_
                      refine ko_iadd dX5_findServed_206 ?_
                      refine ko_istore (i := 7) (lv' := [(0, _), (1, _), (2, _), (3, _), (4, _), (5, _), (6, _), (7, _), (8, _), (9, _), (10, _), (11, _), (12, _), (13, _), (14, _)]) dX5_findServed_207 (by decide) rfl rfl rfl ?_
                      refine ko_iload (i := 8) dX5_findServed_209 rfl ?_
                      refine ko_iload (i := 14) dX5_findServed_211 rfl ?_
                      refine ko_if_ge (tgt := 220) dX5_findServed_213 (by decide) (fun c_213 => ?_) (fun c_213 => ?_)
                      · refine ko_iconst (v := 1) dX5_findServed_220 (by decide) ?_
                        refine ko_iadd dX5_findServed_221 ?_
                        refine ko_istore (i := 8) (lv' := [(0, _), (1, _), (2, _), (3, _), (4, _), (5, _), (6, _), (7, _), (8, _), (9, _), (10, _), (11, _), (12, _), (13, _), (14, _)]) dX5_findServed_222 (by decide) rfl rfl rfl ?_
                        refine ko_bipush (v := 10) dX5_findServed_224 (by decide) ?_
                        refine ko_iload (i := 9) dX5_findServed_226 rfl ?_
                        refine ko_imul dX5_findServed_228 ?_
                        refine ko_iload (i := 14) dX5_findServed_229 rfl ?_
                        refine ko_iadd dX5_findServed_231 ?_
                        refine ko_iconst (v := 1) dX5_findServed_232 (by decide) ?_
                        refine ko_iadd dX5_findServed_233 ?_
                        refine ko_istore (i := 9) (lv' := [(0, _), (1, _), (2, _), (3, _), (4, _), (5, _), (6, _), (7, _), (8, _), (9, _), (10, _), (11, _), (12, _), (13, _), (14, _)]) dX5_findServed_234 (by decide) rfl rfl rfl ?_
                        refine ko_inc1 (i := 13) (lv' := [(0, _), (1, _), (2, _), (3, _), (4, _), (5, _), (6, _), (7, _), (8, _), (9, _), (10, _), (11, _), (12, _), (13, _), (14, _)]) dX5_findServed_236 rfl (by decide) rfl rfl rfl ?_
                        refine ko_goto (tgt := 74) dX5_findServed_239 (by decide) ?_
                        first
                          | (have eB : (hbI bY (nI j) && (!hbI us (nI j) && mayI v (nI j) (nI q))) = true := by simp [c_129, c_138, c_148, c_174, c_192, c_213]
                             have eE : rwE v n bY (k + 1) us oz sv td lf pt = rwE v n bY k (us ||| 1 <<< (nI j &&& 31)) (oz + ozI v (nI j)) (sv + 1) (10 * td + nI j + 1) (lf % (pt / (n + 1))) (pt / (n + 1)) := by
                               rw [rwE, if_pos hop9, if_neg (by omega : ¬ lf / (pt / (n + 1)) = 0), ej9, hq9, if_pos eB]
                             rw [eE] at K
                             refine ko_keep [0, 1, 2, 3, 4, 5, 6, 7, 8, 9, 10, 11, 12, 13] (lv' := [(0, .ref m), (1, .ref t), (2, .int bY), (3, .int c3), (4, .int c4), (5, .int c5), (6, .int (us ||| 1 <<< (nI j &&& 31))), (7, .int (oz + ozI v (nI j))), (8, .int (sv + 1)), (9, .int (10 * td + nI j + 1)), (10, .int (nI (lf % (pt / (n + 1))))), (11, .int (nI (pt / (n + 1)))), (12, .int 1), (13, .int (nI (q + 1)))]) (by rw [nI_succ]; rfl) (ih (q + 1) _ _ _ _ (lf % (pt / (n + 1))) (pt / (n + 1)) (by omega) hb1 hb2 K))
                          | (have eB : (hbI bY (nI j) && (!hbI us (nI j) && mayI v (nI j) (nI q))) = false := by simp [c_129, c_138, c_148, c_174, c_192, c_213]
                             have eE : rwE v n bY (k + 1) us oz sv td lf pt = none := by
                               rw [rwE, if_pos hop9, if_neg (by omega : ¬ lf / (pt / (n + 1)) = 0), ej9, hq9, if_neg (by rw [eB]; decide)]
                             rw [eE] at K
                             refine ko_keep [0, 1, 2, 3, 4, 5, 6, 7, 8, 9, 10, 11, 12, 13] (lv' := [(0, .ref m), (1, .ref t), (2, .int bY), (3, .int c3), (4, .int c4), (5, .int c5), (6, .int _), (7, .int _), (8, .int _), (9, .int _), (10, .int (nI (lf % (pt / (n + 1))))), (11, .int (nI (pt / (n + 1)))), (12, .int 0), (13, .int (nI (q + 1)))]) (by rw [nI_succ]; rfl) (fs_F K))
                      · exact absurd (nI_pos' (n := j) (by omega)) c_213
                    · exact absurd (nI_pos' (n := j) (by omega)) c_192
                  · exact absurd (nI_pos' (n := j) (by omega)) c_174
                · refine ko_aload_n (i := 0) dX5_findServed_151 rfl rfl ?_
                  refine ko_aload_n (i := 1) dX5_findServed_152 rfl rfl ?_
                  refine ko_iload (i := 14) dX5_findServed_153 rfl ?_
                  refine ko_iload (i := 13) dX5_findServed_155 rfl ?_
                  refine ko_callVr lk_X5_105 dX5_findServed_157 (fn_mmayWeep (d := d - 1) fH_o ((fH_n (by omega)).trans k0) hk ((fH_n htm).trans t0) hp hw hj (show q < n by omega) (by omega)) rfl rfl fH_o rfl rfl (by omega) (by omega) (by omega) (Nat.le_of_ble_eq_true rfl) ?_
                  first | refine ko_ifb_eq (tgt := 167) dX5_findServed_160 (by decide) (fun c_160 => ?_) (fun c_160 => ?_) | refine ko_if_eq (tgt := 167) dX5_findServed_160 (by decide) (fun c_160 => ?_) (fun c_160 => ?_)
                  · refine ko_iconst (v := 0) dX5_findServed_167 (by decide) ?_
                    refine ko_istore (i := 12) (lv' := [(0, _), (1, _), (2, _), (3, _), (4, _), (5, _), (6, _), (7, _), (8, _), (9, _), (10, _), (11, _), (12, _), (13, _), (14, _)]) dX5_findServed_168 (by decide) rfl rfl rfl ?_
                    refine ko_iload (i := 6) dX5_findServed_170 rfl ?_
                    refine ko_iload (i := 14) dX5_findServed_172 rfl ?_
                    refine ko_if_ge (tgt := 181) dX5_findServed_174 (by decide) (fun c_174 => ?_) (fun c_174 => ?_)
                    · refine ko_iconst (v := 1) dX5_findServed_181 (by decide) ?_
                      refine ko_iload (i := 14) dX5_findServed_182 rfl ?_
                      refine ko_ishl dX5_findServed_184 ?_
                      refine ko_ior dX5_findServed_185 ?_
                      refine ko_istore (i := 6) (lv' := [(0, _), (1, _), (2, _), (3, _), (4, _), (5, _), (6, _), (7, _), (8, _), (9, _), (10, _), (11, _), (12, _), (13, _), (14, _)]) dX5_findServed_186 (by decide) rfl rfl rfl ?_
                      refine ko_iload (i := 7) dX5_findServed_188 rfl ?_
                      refine ko_iload (i := 14) dX5_findServed_190 rfl ?_
                      refine ko_if_ge (tgt := 199) dX5_findServed_192 (by decide) (fun c_192 => ?_) (fun c_192 => ?_)
                      · refine ko_aload_n (i := 0) dX5_findServed_199 rfl rfl ?_
                        refine ko_aload_n (i := 1) dX5_findServed_200 rfl rfl ?_
                        refine ko_iload (i := 14) dX5_findServed_201 rfl ?_
                        refine ko_callVr lk_X5_97 dX5_findServed_203 (fn_mounces (d := d - 1) fH_o ((fH_n (by omega)).trans k0) hk ((fH_n htm).trans t0) hp hw hj) rfl rfl fH_o rfl rfl (by omega) (by omega) (by omega) (Nat.le_of_ble_eq_true rfl) ?_
                        refine ko_iadd dX5_findServed_206 ?_
                        refine ko_istore (i := 7) (lv' := [(0, _), (1, _), (2, _), (3, _), (4, _), (5, _), (6, _), (7, _), (8, _), (9, _), (10, _), (11, _), (12, _), (13, _), (14, _)]) dX5_findServed_207 (by decide) rfl rfl rfl ?_
                        refine ko_iload (i := 8) dX5_findServed_209 rfl ?_
                        refine ko_iload (i := 14) dX5_findServed_211 rfl ?_
                        refine ko_if_ge (tgt := 220) dX5_findServed_213 (by decide) (fun c_213 => ?_) (fun c_213 => ?_)
                        · refine ko_iconst (v := 1) dX5_findServed_220 (by decide) ?_
                          refine ko_iadd dX5_findServed_221 ?_
                          refine ko_istore (i := 8) (lv' := [(0, _), (1, _), (2, _), (3, _), (4, _), (5, _), (6, _), (7, _), (8, _), (9, _), (10, _), (11, _), (12, _), (13, _), (14, _)]) dX5_findServed_222 (by decide) rfl rfl rfl ?_
                          refine ko_bipush (v := 10) dX5_findServed_224 (by decide) ?_
                          refine ko_iload (i := 9) dX5_findServed_226 rfl ?_
                          refine ko_imul dX5_findServed_228 ?_
                          refine ko_iload (i := 14) dX5_findServed_229 rfl ?_
                          refine ko_iadd dX5_findServed_231 ?_
                          refine ko_iconst (v := 1) dX5_findServed_232 (by decide) ?_
                          refine ko_iadd dX5_findServed_233 ?_
                          refine ko_istore (i := 9) (lv' := [(0, _), (1, _), (2, _), (3, _), (4, _), (5, _), (6, _), (7, _), (8, _), (9, _), (10, _), (11, _), (12, _), (13, _), (14, _)]) dX5_findServed_234 (by decide) rfl rfl rfl ?_
                          refine ko_inc1 (i := 13) (lv' := [(0, _), (1, _), (2, _), (3, _), (4, _), (5, _), (6, _), (7, _), (8, _), (9, _), (10, _), (11, _), (12, _), (13, _), (14, _)]) dX5_findServed_236 rfl (by decide) rfl rfl rfl ?_
                          refine ko_goto (tgt := 74) dX5_findServed_239 (by decide) ?_
                          first
                            | (have eB : (hbI bY (nI j) && (!hbI us (nI j) && mayI v (nI j) (nI q))) = true := by simp [c_129, c_138, c_148, c_160, c_174, c_192, c_213]
                               have eE : rwE v n bY (k + 1) us oz sv td lf pt = rwE v n bY k (us ||| 1 <<< (nI j &&& 31)) (oz + ozI v (nI j)) (sv + 1) (10 * td + nI j + 1) (lf % (pt / (n + 1))) (pt / (n + 1)) := by
                                 rw [rwE, if_pos hop9, if_neg (by omega : ¬ lf / (pt / (n + 1)) = 0), ej9, hq9, if_pos eB]
                               rw [eE] at K
                               refine ko_keep [0, 1, 2, 3, 4, 5, 6, 7, 8, 9, 10, 11, 12, 13] (lv' := [(0, .ref m), (1, .ref t), (2, .int bY), (3, .int c3), (4, .int c4), (5, .int c5), (6, .int (us ||| 1 <<< (nI j &&& 31))), (7, .int (oz + ozI v (nI j))), (8, .int (sv + 1)), (9, .int (10 * td + nI j + 1)), (10, .int (nI (lf % (pt / (n + 1))))), (11, .int (nI (pt / (n + 1)))), (12, .int 1), (13, .int (nI (q + 1)))]) (by rw [nI_succ]; rfl) (ih (q + 1) _ _ _ _ (lf % (pt / (n + 1))) (pt / (n + 1)) (by omega) hb1 hb2 K))
                            | (have eB : (hbI bY (nI j) && (!hbI us (nI j) && mayI v (nI j) (nI q))) = false := by simp [c_129, c_138, c_148, c_160, c_174, c_192, c_213]
                               have eE : rwE v n bY (k + 1) us oz sv td lf pt = none := by
                                 rw [rwE, if_pos hop9, if_neg (by omega : ¬ lf / (pt / (n + 1)) = 0), ej9, hq9, if_neg (by rw [eB]; decide)]
                               rw [eE] at K
                               refine ko_keep [0, 1, 2, 3, 4, 5, 6, 7, 8, 9, 10, 11, 12, 13] (lv' := [(0, .ref m), (1, .ref t), (2, .int bY), (3, .int c3), (4, .int c4), (5, .int c5), (6, .int _), (7, .int _), (8, .int _), (9, .int _), (10, .int (nI (lf % (pt / (n + 1))))), (11, .int (nI (pt / (n + 1)))), (12, .int 0), (13, .int (nI (q + 1)))]) (by rw [nI_succ]; rfl) (fs_F K))
                        · exact absurd (nI_pos' (n := j) (by omega)) c_213
                      · exact absurd (nI_pos' (n := j) (by omega)) c_192
                    · exact absurd (nI_pos' (n := j) (by omega)) c_174
                  · refine ko_iconst (v := 1) dX5_findServed_163 (by decide) ?_
                    refine ko_goto (tgt := 168) dX5_findServed_164 (by decide) ?_
                    refine ko_istore (i := 12) (lv' := [(0, _), (1, _), (2, _), (3, _), (4, _), (5, _), (6, _), (7, _), (8, _), (9, _), (10, _), (11, _), (12, _), (13, _), (14, _)]) dX5_findServed_168 (by decide) rfl rfl rfl ?_
                    refine ko_iload (i := 6) dX5_findServed_170 rfl ?_
                    refine ko_iload (i := 14) dX5_findServed_172 rfl ?_
                    refine ko_if_ge (tgt := 181) dX5_findServed_174 (by decide) (fun c_174 => ?_) (fun c_174 => ?_)
                    · refine ko_iconst (v := 1) dX5_findServed_181 (by decide) ?_
                      refine ko_iload (i := 14) dX5_findServed_182 rfl ?_
                      refine ko_ishl dX5_findServed_184 ?_
                      refine ko_ior dX5_findServed_185 ?_
                      refine ko_istore (i := 6) (lv' := [(0, _), (1, _), (2, _), (3, _), (4, _), (5, _), (6, _), (7, _), (8, _), (9, _), (10, _), (11, _), (12, _), (13, _), (14, _)]) dX5_findServed_186 (by decide) rfl rfl rfl ?_
                      refine ko_iload (i := 7) dX5_findServed_188 rfl ?_
                      refine ko_iload (i := 14) dX5_findServed_190 rfl ?_
                      refine ko_if_ge (tgt := 199) dX5_findServed_192 (by decide) (fun c_192 => ?_) (fun c_192 => ?_)
                      · refine ko_aload_n (i := 0) dX5_findServed_199 rfl rfl ?_
                        refine ko_aload_n (i := 1) dX5_findServed_200 rfl rfl ?_
                        refine ko_iload (i := 14) dX5_findServed_201 rfl ?_
                        refine ko_callVr lk_X5_97 dX5_findServed_203 (fn_mounces (d := d - 1) fH_o ((fH_n (by omega)).trans k0) hk ((fH_n htm).trans t0) hp hw hj) rfl rfl fH_o rfl rfl (by omega) (by omega) (by omega) (Nat.le_of_ble_eq_true rfl) ?_
                        refine ko_iadd dX5_findServed_206 ?_
                        refine ko_istore (i := 7) (lv' := [(0, _), (1, _), (2, _), (3, _), (4, _), (5, _), (6, _), (7, _), (8, _), (9, _), (10, _), (11, _), (12, _), (13, _), (14, _)]) dX5_findServed_207 (by decide) rfl rfl rfl ?_
                        refine ko_iload (i := 8) dX5_findServed_209 rfl ?_
                        refine ko_iload (i := 14) dX5_findServed_211 rfl ?_
                        refine ko_if_ge (tgt := 220) dX5_findServed_213 (by decide) (fun c_213 => ?_) (fun c_213 => ?_)
                        · refine ko_iconst (v := 1) dX5_findServed_220 (by decide) ?_
                          refine ko_iadd dX5_findServed_221 ?_
                          refine ko_istore (i := 8) (lv' := [(0, _), (1, _), (2, _), (3, _), (4, _), (5, _), (6, _), (7, _), (8, _), (9, _), (10, _), (11, _), (12, _), (13, _), (14, _)]) dX5_findServed_222 (by decide) rfl rfl rfl ?_
                          refine ko_bipush (v := 10) dX5_findServed_224 (by decide) ?_
                          refine ko_iload (i := 9) dX5_findServed_226 rfl ?_
                          refine ko_imul dX5_findServed_228 ?_
                          refine ko_iload (i := 14) dX5_findServed_229 rfl ?_
                          refine ko_iadd dX5_findServed_231 ?_
                          refine ko_iconst (v := 1) dX5_findServed_232 (by decide) ?_
                          refine ko_iadd dX5_findServed_233 ?_
                          refine ko_istore (i := 9) (lv' := [(0, _), (1, _), (2, _), (3, _), (4, _), (5, _), (6, _), (7, _), (8, _), (9, _), (10, _), (11, _), (12, _), (13, _), (14, _)]) dX5_findServed_234 (by decide) rfl rfl rfl ?_
                          refine ko_inc1 (i := 13) (lv' := [(0, _), (1, _), (2, _), (3, _), (4, _), (5, _), (6, _), (7, _), (8, _), (9, _), (10, _), (11, _), (12, _), (13, _), (14, _)]) dX5_findServed_236 rfl (by decide) rfl rfl rfl ?_
                          refine ko_goto (tgt := 74) dX5_findServed_239 (by decide) ?_
                          first
                            | (have eB : (hbI bY (nI j) && (!hbI us (nI j) && mayI v (nI j) (nI q))) = true := by simp [c_129, c_138, c_148, c_160, c_174, c_192, c_213]
                               have eE : rwE v n bY (k + 1) us oz sv td lf pt = rwE v n bY k (us ||| 1 <<< (nI j &&& 31)) (oz + ozI v (nI j)) (sv + 1) (10 * td + nI j + 1) (lf % (pt / (n + 1))) (pt / (n + 1)) := by
                                 rw [rwE, if_pos hop9, if_neg (by omega : ¬ lf / (pt / (n + 1)) = 0), ej9, hq9, if_pos eB]
                               rw [eE] at K
                               refine ko_keep [0, 1, 2, 3, 4, 5, 6, 7, 8, 9, 10, 11, 12, 13] (lv' := [(0, .ref m), (1, .ref t), (2, .int bY), (3, .int c3), (4, .int c4), (5, .int c5), (6, .int (us ||| 1 <<< (nI j &&& 31))), (7, .int (oz + ozI v (nI j))), (8, .int (sv + 1)), (9, .int (10 * td + nI j + 1)), (10, .int (nI (lf % (pt / (n + 1))))), (11, .int (nI (pt / (n + 1)))), (12, .int 1), (13, .int (nI (q + 1)))]) (by rw [nI_succ]; rfl) (ih (q + 1) _ _ _ _ (lf % (pt / (n + 1))) (pt / (n + 1)) (by omega) hb1 hb2 K))
                            | (have eB : (hbI bY (nI j) && (!hbI us (nI j) && mayI v (nI j) (nI q))) = false := by simp [c_129, c_138, c_148, c_160, c_174, c_192, c_213]
                               have eE : rwE v n bY (k + 1) us oz sv td lf pt = none := by
                                 rw [rwE, if_pos hop9, if_neg (by omega : ¬ lf / (pt / (n + 1)) = 0), ej9, hq9, if_neg (by rw [eB]; decide)]
                               rw [eE] at K
                               refine ko_keep [0, 1, 2, 3, 4, 5, 6, 7, 8, 9, 10, 11, 12, 13] (lv' := [(0, .ref m), (1, .ref t), (2, .int bY), (3, .int c3), (4, .int c4), (5, .int c5), (6, .int _), (7, .int _), (8, .int _), (9, .int _), (10, .int (nI (lf % (pt / (n + 1))))), (11, .int (nI (pt / (n + 1)))), (12, .int 0), (13, .int (nI (q + 1)))]) (by rw [nI_succ]; rfl) (fs_F K))
                        · exact absurd (nI_pos' (n := j) (by omega)) c_213
                      · exact absurd (nI_pos' (n := j) (by omega)) c_192
                    · exact absurd (nI_pos' (n := j) (by omega)) c_174
