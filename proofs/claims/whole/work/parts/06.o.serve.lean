/-! ===== the reference's ways of serving are the object's ===== -/
def cP (k n : Nat) : Nat → Nat
  | 0 => 0
  | i + 1 => cP k n i + if hbI (nI k) (nI (n - (i + 1))) = true then 1 else 0
theorem cP_mn : ∀ n, n < 6 → ∀ k, k < 2 ^ n → mnI (nI k) 5 = nI (cP k n n) := by decide +kernel
theorem cO_cP {v : PU} {n k : Nat} (e : pOp v = nI k) : ∀ i, cO v n i = cP k n i
  | 0 => rfl
  | i + 1 => by
    show cO v n i + (if hbI (pOp v) (nI (n - (i + 1))) = true then 1 else 0) = cP k n i + (if hbI (nI k) (nI (n - (i + 1))) = true then 1 else 0)
    rw [cO_cP e i, e]
theorem cO_mn {v : PU} {n : Nat} (hw : WF v n) : mnI (pOp v) 5 = nI (cO v n n) := by
  obtain ⟨k, hk, e⟩ := hw.2.2.2.2.2.2.1
  have h5 := hw.2.1
  rw [cO_cP e n, e]
  exact cP_mn n (by omega) k hk
theorem po_pow (b : Nat) : ∀ t, poI (nI b) t = nI (b ^ t)
  | 0 => rfl
  | t + 1 => by
    show poI (nI b) t * nI b = _
    rw [po_pow b t, pk_mul, Nat.pow_succ]
set_option maxRecDepth 20000 in
theorem fn_findServed {G : kx_G} {d N m t n R : Nat} {h : kx_H} {o : MO} {Kf F : Nat → Int32} {v : PU} {bY : Int32} (o0 : h m = some (kmo m o)) (r2 : mN o = nI n) (k0 : h (m + 2) = some (ka 5 Kf)) (hk : ∀ j, j < n → Kf j = pKd v j) (t0 : h t = some (ka 43 F)) (htm : t ≠ m) (hp : pgR F v) (hw : WF v n) (hd : 4 ≤ d) (hR : Mk v n n = R) : kx_Fn mX5_findServed d 0 0 G [.ref m, .ref t, .int bY] N h (none, N, fH h m o (blk v n bY n 0 0 0 0 R R (pOp v, -9, 9999, 0))) := by
  refine kx_Fn_of rfl (Nat.le_of_ble_eq_true rfl) rfl ?_ (ku_dom o0)
  have hn5 := hw.2.1
  have hR7 : R ≤ 7776 := by rw [← hR]; exact Mk_le hn5 hn5
  have LOOP : ∀ (k r : Nat), k + r = R → kx_Ok mX5_findServed d 0 0 G 0 0 41 [(0, .ref m), (1, .ref t), (2, .int bY), (3, .int (nI (cO v n n))), (4, .int (nI R)), (5, .int (nI r))] [] N (fH h m o (blk v n bY n 0 0 0 0 R r (pOp v, -9, 9999, 0))) (none, N, fH h m o (blk v n bY n 0 0 0 0 R R (pOp v, -9, 9999, 0))) := by
    intro k
    induction k with
    | zero =>
      intro r hi
      obtain rfl : R = r := by omega
      refine ko_iload (i := 5) dX5_findServed_41 rfl ?_
      refine ko_iload (i := 4) dX5_findServed_43 rfl ?_
      refine ko_icmp_ge (tgt := 298) dX5_findServed_45 (by decide) (fun c_45 => ?_) (fun c_45 => ?_)
      · refine ko_vret dX5_findServed_298 rfl (Nat.le_of_ble_eq_true rfl) (Nat.le_of_ble_eq_true rfl) ?_
        rfl
      · exact absurd (show nI R ≤ nI R by rw [(rfl : nI R = nI R)]; exact nI_le (Nat.le_refl _) (by omega)) c_45
    | succ k ih =>
      intro r hi
      refine ko_iload (i := 5) dX5_findServed_41 rfl ?_
      refine ko_iload (i := 4) dX5_findServed_43 rfl ?_
      refine ko_icmp_ge (tgt := 298) dX5_findServed_45 (by decide) (fun c_45 => ?_) (fun c_45 => ?_)
      · exact absurd (show nI R ≤ nI r from by rw [← (rfl : nI R = nI R)]; exact c_45) (nI_ge (by omega) (by omega))
      · refine ko_iconst (v := 0) dX5_findServed_48 (by decide) ?_
        refine ko_istore (i := 6) (lv' := [(0, _), (1, _), (2, _), (3, _), (4, _), (5, _), (6, _)]) dX5_findServed_49 (by decide) rfl rfl rfl ?_
        refine ko_iconst (v := 0) dX5_findServed_51 (by decide) ?_
        refine ko_istore (i := 7) (lv' := [(0, _), (1, _), (2, _), (3, _), (4, _), (5, _), (6, _), (7, _)]) dX5_findServed_52 (by decide) rfl rfl rfl ?_
        refine ko_iconst (v := 0) dX5_findServed_54 (by decide) ?_
        refine ko_istore (i := 8) (lv' := [(0, _), (1, _), (2, _), (3, _), (4, _), (5, _), (6, _), (7, _), (8, _)]) dX5_findServed_55 (by decide) rfl rfl rfl ?_
        refine ko_iconst (v := 0) dX5_findServed_57 (by decide) ?_
        refine ko_istore (i := 9) (lv' := [(0, _), (1, _), (2, _), (3, _), (4, _), (5, _), (6, _), (7, _), (8, _), (9, _)]) dX5_findServed_58 (by decide) rfl rfl rfl ?_
        refine ko_iload (i := 5) dX5_findServed_60 rfl ?_
        refine ko_istore (i := 10) (lv' := [(0, _), (1, _), (2, _), (3, _), (4, _), (5, _), (6, _), (7, _), (8, _), (9, _), (10, _)]) dX5_findServed_62 (by decide) rfl rfl rfl ?_
        refine ko_iload (i := 4) dX5_findServed_64 rfl ?_
        refine ko_istore (i := 11) (lv' := [(0, _), (1, _), (2, _), (3, _), (4, _), (5, _), (6, _), (7, _), (8, _), (9, _), (10, _), (11, _)]) dX5_findServed_66 (by decide) rfl rfl rfl ?_
        refine ko_iconst (v := 1) dX5_findServed_68 (by decide) ?_
        refine ko_istore (i := 12) (lv' := [(0, _), (1, _), (2, _), (3, _), (4, _), (5, _), (6, _), (7, _), (8, _), (9, _), (10, _), (11, _), (12, _)]) dX5_findServed_69 (by decide) rfl rfl rfl ?_
        refine ko_iconst (v := 0) dX5_findServed_71 (by decide) ?_
        refine ko_istore (i := 13) (lv' := [(0, _), (1, _), (2, _), (3, _), (4, _), (5, _), (6, _), (7, _), (8, _), (9, _), (10, _), (11, _), (12, _), (13, _)]) dX5_findServed_72 (by decide) rfl rfl rfl ?_
        refine fs_Q o0 r2 k0 hk t0 htm hp hw hd n 0 0 0 0 0 r R (by omega) hR.symm (by omega) ?_
        refine ko_inc1 (i := 5) (lv' := [(0, _), (1, _), (2, _), (3, _), (4, _), (5, _)]) dX5_findServed_292 rfl (by decide) rfl rfl rfl ?_
        refine ko_goto (tgt := 41) dX5_findServed_295 (by decide) ?_
        have ei := ih (r + 1) (by omega)
        rw [blk, nI_succ] at ei
        exact ei
  refine ko_aload_n (i := 1) dX5_findServed_0 rfl rfl ?_
  refine ko_bipush (v := 15) dX5_findServed_1 (by decide) ?_
  refine ko_iald dX5_findServed_3 t0 (in15 (i := 15) (by omega)) ?_
  refine ko_st (st' := [.int (F 15)]) rfl ?_
  rw [hp.2.2.2.1]
  refine ko_callSr lk_X5_122 dX5_findServed_4 (fn_many (d := d - 1)) rfl rfl (by omega) (by omega) (by omega) (Nat.le_of_ble_eq_true rfl) ?_
  rw [cO_mn hw]
  refine ko_istore_n (i := 3) (lv' := [(0, _), (1, _), (2, _), (3, _)]) dX5_findServed_7 rfl (by decide) rfl rfl rfl ?_
  refine ko_aload_n (i := 0) dX5_findServed_8 rfl rfl ?_
  refine ko_bipush (v := (-9)) dX5_findServed_9 (by decide) ?_
  refine ko_put fl_X5_133 dX5_findServed_11 o0 rfl rfl (Nat.le_of_ble_eq_true rfl) ?_
  refine ko_aload_n (i := 0) dX5_findServed_14 rfl rfl ?_
  refine ko_sipush (v := 9999) dX5_findServed_15 (by decide) ?_
  refine ko_put fl_X5_136 dX5_findServed_18 ku_s rfl rfl (Nat.le_of_ble_eq_true rfl) ?_
  refine ko_h (ku_ku _ _ _ _) ?_
  refine ko_aload_n (i := 0) dX5_findServed_21 rfl rfl ?_
  refine ko_iconst (v := 0) dX5_findServed_22 (by decide) ?_
  refine ko_put fl_X5_139 dX5_findServed_23 ku_s rfl rfl (Nat.le_of_ble_eq_true rfl) ?_
  refine ko_h (ku_ku _ _ _ _) ?_
  refine ko_h (h' := fH h m o (pOp v, -9, 9999, 0)) rfl ?_
  refine ko_aload_n (i := 0) dX5_findServed_26 rfl rfl ?_
  refine ko_get fl_X5_45 dX5_findServed_27 fH_o rfl ?_
  refine ko_iconst (v := 1) dX5_findServed_30 (by decide) ?_
  refine ko_iadd dX5_findServed_31 ?_
  refine ko_st (st' := [.int (nI (n + 1))]) (by rw [nI_succ]; exact congrArg (fun z => [Value.int (z + 1)]) r2) ?_
  refine ko_iload_n (i := 3) dX5_findServed_32 rfl rfl ?_
  refine ko_callSr lk_X5_142 dX5_findServed_33 (fn_mpower (d := d - 1) (b := nI (n + 1)) (t := cO v n n) (by have := cO_le v n n; omega)) rfl rfl (by omega) (by omega) (by omega) (Nat.le_of_ble_eq_true rfl) ?_
  rw [po_pow, show (n + 1) ^ cO v n n = R from hR]
  refine ko_istore (i := 4) (lv' := [(0, _), (1, _), (2, _), (3, _), (4, _)]) dX5_findServed_36 (by decide) rfl rfl rfl ?_
  refine ko_iconst (v := 0) dX5_findServed_38 (by decide) ?_
  refine ko_istore (i := 5) (lv' := [(0, _), (1, _), (2, _), (3, _), (4, _), (5, _)]) dX5_findServed_39 (by decide) rfl rfl rfl ?_
  exact LOOP R 0 (by omega)
theorem cm_1 (s : SU) (g c t : Int32) : (cmU s g c t).1 = s.1 := by
  unfold cmU
  split
  · rfl
  · split
    · rfl
    · split
      · rfl
      · rfl
theorem gvF_1 {rec : Int32 → Int32 → Int32 → Int32 → SU → SU} (hr : ∀ f g c t s, (rec f g c t s).1 = s.1) (u : PU) (w f g c t : Int32) : ∀ i s, (gvF rec u w f g c t i s).1 = s.1
  | 0, s => rfl
  | i + 1, s => by
    rw [gvF]
    split
    · split
      · rw [hr, gvF_1 hr u w f g c t i s]
      · exact gvF_1 hr u w f g c t i s
    · exact gvF_1 hr u w f g c t i s
theorem gv_1 (u : PU) : ∀ k f g c t s, (gv u k f g c t s).1 = s.1
  | 0, f, g, c, t, s => cm_1 s g c t
  | k + 1, f, g, c, t, s => by
    rw [gv]
    split
    · rw [gvF_1 (gv_1 u k), gv_1 u k]
    · exact gv_1 u k f g c t s
/-- the first way tried beats whatever stands below nought -/
theorem gv_0 (u : PU) : ∀ (k : Nat) (f c t : Int32) (s s' : SU), s.1 = s'.1 → s.2.1 < 0 → s'.2.1 < 0 → gv u k f 0 c t s = gv u k f 0 c t s'
  | 0, f, c, t, s, s', h1, h2, h3 => by
    show cmU s 0 c t = cmU s' 0 c t
    unfold cmU
    rw [if_pos h2, if_pos h3, h1]
  | k + 1, f, c, t, s, s', h1, h2, h3 => by
    rw [gv, gv, h1]
    split
    · rw [gv_0 u k f c (t * 10) s s' h1 h2 h3]
    · exact gv_0 u k f c t s s' h1 h2 h3
theorem gv_tail (u : PU) {op : Int32} {n : Nat} (ho : ∀ j, n ≤ j → j < 5 → hbI op (nI j) = false) (hn : n ≤ 5) : ∀ k f g c t s, k ≤ 5 - n → s.1 = op → gv u k f g c t s = cmU s g c t
  | 0, f, g, c, t, s, _, _ => rfl
  | k + 1, f, g, c, t, s, hk, hs => by
    rw [gv, hs, ho (4 - k) (by omega) (by omega), if_neg (by decide)]
    exact gv_tail u ho hn k f g c t s (by omega) hs
theorem gvF_out (rec : Int32 → Int32 → Int32 → Int32 → SU → SU) (u : PU) {n : Nat} (hw : WF u n) (w f g c t : Int32) (s : SU) : ∀ i, n + i ≤ 5 → gvF rec u w f g c t (n + i) s = gvF rec u w f g c t n s
  | 0, _ => rfl
  | i + 1, h => by
    show gvF rec u w f g c t (n + i + 1) s = _
    rw [gvF, fit_out hw (by omega) (by omega), if_neg (show ¬ false = true by decide)]
    rw [gvF_out rec u hw w f g c t s i (by omega)]
    split <;> rfl
theorem blk_cong {v : PU} {n : Nat} {bY : Int32} {k k' : Nat} {us oz sv td us' oz' sv' td' : Int32} {pt pt' : Nat} : ∀ c, (∀ l, l < c → rwE v n bY k us oz sv td l pt = rwE v n bY k' us' oz' sv' td' l pt') → ∀ s, blk v n bY k us oz sv td pt c s = blk v n bY k' us' oz' sv' td' pt' c s
  | 0, _, s => rfl
  | c + 1, e, s => by
    rw [blk, blk, e c (Nat.lt_succ_self c), blk_cong c (fun l hl => e l (by omega)) s]
theorem blk_none {v : PU} {n : Nat} {bY : Int32} {k : Nat} {us oz sv td : Int32} {pt a : Nat} (s : SU) : ∀ c, (∀ l, l < c → rwE v n bY k us oz sv td (a + l) pt = none) → blk v n bY k us oz sv td pt (a + c) s = blk v n bY k us oz sv td pt a s
  | 0, _ => rfl
  | c + 1, e => by
    show blk v n bY k us oz sv td pt (a + c + 1) s = _
    rw [blk, e c (Nat.lt_succ_self c)]
    exact blk_none s c (fun l hl => e l (by omega))
theorem blk_add {v : PU} {n : Nat} {bY : Int32} {k k' : Nat} {us oz sv td us' oz' sv' td' : Int32} {pt pt' a : Nat} (s : SU) : ∀ c, (∀ l, l < c → rwE v n bY k us oz sv td (a + l) pt = rwE v n bY k' us' oz' sv' td' l pt') → blk v n bY k us oz sv td pt (a + c) s = blk v n bY k' us' oz' sv' td' pt' c (blk v n bY k us oz sv td pt a s)
  | 0, _ => rfl
  | c + 1, e => by
    show blk v n bY k us oz sv td pt (a + c + 1) s = _
    rw [blk, e c (Nat.lt_succ_self c), blk_add s c (fun l hl => e l (by omega))]
    rfl
/-- a block of rows is what the object's search does from there -/
theorem blk_gv {u v : PU} {n : Nat} {bY f0 : Int32} (hu : WF u n) (hw : WF v n)
    (Hf : ∀ p, p < n → ∀ q, q < n → hbI (pOp v) (nI q) = true → (hbI bY (nI p) && mayI v (nI p) (nI q)) = (hbI f0 (nI p) && fitI u (nI p) (nI q)))
    (Ho : ∀ p, p < n → hbI f0 (nI p) = true → ozI v (nI p) = ozI u (nI p)) :
    ∀ (k : Nat) (us oz sv td f : Int32) (s : SU), k ≤ n → s.1 = pOp v → (∀ p, p < 5 → hbI f (nI p) = (hbI f0 (nI p) && !hbI us (nI p))) → blk v n bY k us oz sv td (Mk v n k) (Mk v n k) s = gv u (5 - n + k) f sv oz td s := by
  intro k
  have hn5 := hw.2.1
  have ho : ∀ j, n ≤ j → j < 5 → hbI (pOp v) (nI j) = false := fun j h1 h2 => op_out hw h1 h2
  induction k with
  | zero =>
    intro us oz sv td f s hk hs hf
    rw [show Mk v n 0 = 1 from rfl, gv_tail u ho hn5 (5 - n + 0) f sv oz td s (by omega) hs]
    rfl
  | succ k ih =>
    intro us oz sv td f s hk hs hf
    have hq : 4 - (5 - n + k) = n - (k + 1) := by omega
    show _ = gv u ((5 - n + k) + 1) f sv oz td s
    rw [gv, hs, hq]
    cases hop : hbI (pOp v) (nI (n - (k + 1))) with
    | false =>
      rw [if_neg (by decide), Mk_no hop]
      rw [← ih us oz sv td f s (by omega) hs hf]
      exact blk_cong _ (fun l hl => by rw [rwE, hop, if_neg (by decide)]) s
    | true =>
      rw [if_pos rfl]
      have hM := Mk_op hop
      have hMp := Mk_pos v n k
      have hdv : Mk v n (k + 1) / (n + 1) = Mk v n k := by rw [hM]; exact Nat.mul_div_cancel _ (by omega)
      have hd0 : ∀ i l, l < Mk v n k → (Mk v n k * i + l) / Mk v n k = i ∧ (Mk v n k * i + l) % Mk v n k = l := fun i l hl => ⟨by rw [Nat.mul_add_div hMp, Nat.div_eq_of_lt hl]; rfl, by rw [Nat.mul_add_mod, Nat.mod_eq_of_lt hl]⟩
      have key : ∀ i, i ≤ n → blk v n bY (k + 1) us oz sv td (Mk v n (k + 1)) (Mk v n k * (i + 1)) s = gvF (gv u (5 - n + k)) u (nI (n - (k + 1))) f sv oz td i (gv u (5 - n + k) f sv oz (td * 10) s) := by
        intro i
        induction i with
        | zero =>
          intro _
          rw [show Mk v n k * (0 + 1) = 0 + Mk v n k by omega, blk_add (k' := k) (us' := us) (oz' := oz) (sv' := sv) (td' := 10 * td) (pt' := Mk v n k) s (Mk v n k) (fun l hl => ?_)]
          · show blk v n bY k us oz sv (10 * td) (Mk v n k) (Mk v n k) s = gv u (5 - n + k) f sv oz (td * 10) s
            rw [ih us oz sv (10 * td) f s (by omega) hs hf, Int32.mul_comm]
          · have h1 := hd0 0 l hl
            rw [Nat.mul_zero] at h1
            rw [rwE, hop, if_pos rfl, hdv, h1.1, h1.2, if_pos rfl]
        | succ i ih2 =>
          intro hi
          have e0 := ih2 (by omega)
          have hs1 : (gvF (gv u (5 - n + k)) u (nI (n - (k + 1))) f sv oz td i (gv u (5 - n + k) f sv oz (td * 10) s)).1 = pOp v := by rw [gvF_1 (gv_1 u _), gv_1, hs]
          rw [show Mk v n k * (i + 1 + 1) = Mk v n k * (i + 1) + Mk v n k from Nat.mul_succ _ _]
          have hro : ∀ l, l < Mk v n k → rwE v n bY (k + 1) us oz sv td (Mk v n k * (i + 1) + l) (Mk v n (k + 1)) = if (hbI bY (nI i) && (!hbI us (nI i) && mayI v (nI i) (nI (n - (k + 1))))) = true then rwE v n bY k (us ||| 1 <<< (nI i &&& 31)) (oz + ozI v (nI i)) (sv + 1) (10 * td + nI i + 1) l (Mk v n k) else none := fun l hl => by
            have h1 := hd0 (i + 1) l hl
            rw [rwE, hop, if_pos rfl, hdv, h1.1, h1.2, if_neg (by omega), Nat.add_sub_cancel]
          have hB : (hbI bY (nI i) && (!hbI us (nI i) && mayI v (nI i) (nI (n - (k + 1))))) = (hbI f (nI i) && fitI u (nI i) (nI (n - (k + 1)))) := by
            have e1 := Hf i (by omega) (n - (k + 1)) (by omega) hop
            rw [hf i (by omega)]
            cases h1 : hbI us (nI i)
            · simp only [Bool.not_false, Bool.true_and, Bool.and_true]
              exact e1
            · simp
          rw [gvF]
          cases hv : (hbI bY (nI i) && (!hbI us (nI i) && mayI v (nI i) (nI (n - (k + 1))))) with
          | false =>
            rw [hv] at hB
            rw [blk_none s (Mk v n k) (fun l hl => by rw [hro l hl, hv, if_neg (by decide)]), e0]
            cases h1 : hbI f (nI i)
            · rw [if_neg (by decide)]
            · rw [if_pos rfl]
              rw [h1, Bool.true_and] at hB
              rw [← hB, if_neg (by decide)]
          | true =>
            rw [hv] at hB
            have hB2 := hB.symm
            rw [Bool.and_eq_true] at hB2
            rw [hB2.1, hB2.2, if_pos rfl, if_pos rfl]
            rw [blk_add (k' := k) (us' := us ||| 1 <<< (nI i &&& 31)) (oz' := oz + ozI v (nI i)) (sv' := sv + 1) (td' := 10 * td + nI i + 1) (pt' := Mk v n k) s (Mk v n k) (fun l hl => by rw [hro l hl, hv, if_pos rfl]), e0]
            have hf0 : hbI f0 (nI i) = true := by
              have h1 := hf i (by omega)
              rw [hB2.1] at h1
              cases h2 : hbI f0 (nI i)
              · rw [h2] at h1; exact absurd h1 (by simp)
              · rfl
            rw [ih (us ||| 1 <<< (nI i &&& 31)) (oz + ozI v (nI i)) (sv + 1) (10 * td + nI i + 1) (f &&& (1 <<< (nI i &&& 31) ^^^ (-1))) _ (by omega) hs1 (fun p hp => by
              rw [hb_and _ _ p hp, hb_not _ p hp, hb_or _ _ p hp, hb_one i (by omega) p hp, hf p hp]
              cases hbI f0 (nI p) <;> cases hbI us (nI p) <;> cases decide (i = p) <;> rfl), Ho i (by omega) hf0, Int32.mul_comm]
      have e5 := gvF_out (gv u (5 - n + k)) u hu (nI (n - (k + 1))) f sv oz td (gv u (5 - n + k) f sv oz (td * 10) s) (5 - n) (by omega)
      rw [show n + (5 - n) = 5 by omega] at e5
      rw [e5, ← key n (Nat.le_refl n), hM]
theorem hb_z : ∀ j, j < 5 → hbI 0 (nI j) = false := hb_zero
theorem serve_eq {u v : PU} {n : Nat} {bY f0 : Int32} (hu : WF u n) (hw : WF v n)
    (Hf : ∀ p, p < n → ∀ q, q < n → hbI (pOp v) (nI q) = true → (hbI bY (nI p) && mayI v (nI p) (nI q)) = (hbI f0 (nI p) && fitI u (nI p) (nI q)))
    (Ho : ∀ p, p < n → hbI f0 (nI p) = true → ozI v (nI p) = ozI u (nI p)) :
    blk v n bY n 0 0 0 0 (Mk v n n) (Mk v n n) (pOp v, -9, 9999, 0) = seU u (pOp v) f0 := by
  have hn5 := hw.2.1
  rw [blk_gv hu hw Hf Ho n 0 0 0 0 f0 _ (Nat.le_refl n) rfl (fun p hp => by rw [hb_z p hp]; simp), show 5 - n + n = 5 by omega]
  exact gv_0 u 5 f0 0 0 _ _ rfl (show (-9 : Int32) < 0 by decide) (show (-1 : Int32) < 0 by decide)
