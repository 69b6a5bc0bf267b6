/-! ===== how many can be served: a number; shares ===== -/
def mdF (rec : Int32 → Nat) (u : PU) (w f : Int32) : Nat → Nat
  | 0 => 0
  | i + 1 => if (hbI f (nI i) && fitI u (nI i) w) = true then max (mdF rec u w f i) (1 + rec (f &&& (1 <<< (nI i &&& 31) ^^^ (-1)))) else mdF rec u w f i
def md (u : PU) (op : Int32) : Nat → Int32 → Nat
  | 0, _ => 0
  | k + 1, f => if hbI op (nI (4 - k)) = true then max (md u op k f) (mdF (md u op k) u (nI (4 - k)) f 5) else md u op k f
theorem mdF_le {rec : Int32 → Nat} {u : PU} {w f : Int32} {k : Nat} (h : ∀ f, rec f ≤ k) : ∀ i, mdF rec u w f i ≤ k + 1
  | 0 => Nat.zero_le _
  | i + 1 => by
    have h1 := mdF_le (u := u) (w := w) (f := f) h i
    have h2 := h (f &&& (1 <<< (nI i &&& 31) ^^^ (-1)))
    rw [mdF]
    split
    · omega
    · exact h1
theorem md_le (u : PU) (op : Int32) : ∀ k f, md u op k f ≤ k
  | 0, _ => Nat.le_refl _
  | k + 1, f => by
    have h1 := md_le u op k f
    have h2 := mdF_le (u := u) (w := nI (4 - k)) (f := f) (md_le u op k) 5
    rw [md]
    split
    · omega
    · omega
theorem mdF_mono {rec : Int32 → Nat} {u : PU} {w f f' : Int32} (hs : sb5 f f') (h : ∀ g g', sb5 g g' → rec g ≤ rec g') : ∀ i, i ≤ 5 → mdF rec u w f i ≤ mdF rec u w f' i
  | 0, _ => Nat.le_refl _
  | i + 1, hi => by
    have h1 := mdF_mono (u := u) (w := w) hs h i (by omega)
    rw [mdF, mdF]
    cases hb : (hbI f (nI i) && fitI u (nI i) w) with
    | false =>
      rw [if_neg (by decide)]
      split
      · omega
      · exact h1
    | true =>
      rw [Bool.and_eq_true] at hb
      rw [if_pos rfl, if_pos (by rw [hs i (by omega) hb.1, hb.2]; rfl)]
      have h2 := h (f &&& (1 <<< (nI i &&& 31) ^^^ (-1))) (f' &&& (1 <<< (nI i &&& 31) ^^^ (-1))) (fun j hj => by
        rw [hb_and _ _ j hj, hb_and _ _ j hj, Bool.and_eq_true, Bool.and_eq_true]
        exact fun z => ⟨hs j hj z.1, z.2⟩)
      omega
theorem md_mono (u : PU) (op : Int32) : ∀ k f f', sb5 f f' → md u op k f ≤ md u op k f'
  | 0, _, _, _ => Nat.le_refl _
  | k + 1, f, f', hs => by
    have h1 := md_mono u op k f f' hs
    have h2 := mdF_mono (u := u) (w := nI (4 - k)) hs (md_mono u op k) 5 (by omega)
    rw [md, md]
    split
    · omega
    · exact h1
theorem cm_md {s : SU} {a g : Nat} {c t : Int32} (ha : s.2.1 = nI a) (h1 : a < 2 ^ 31) (h2 : g < 2 ^ 31) : (cmU s (nI g) c t).2.1 = nI (max a g) := by
  unfold cmU
  rw [ha]
  by_cases h3 : nI a < nI g
  · rw [if_pos h3]
    have := (nI_ltI h1 h2).mp h3
    exact congrArg nI (by omega)
  · rw [if_neg h3]
    have h4 : ¬ a < g := fun z => h3 ((nI_ltI h1 h2).mpr z)
    by_cases h5 : nI g = nI a
    · rw [if_neg (fun z => z h5)]
      split
      · rw [ha]; exact congrArg nI (by omega)
      · show nI g = _
        have := (nI_eq h2 h1).mp h5
        exact congrArg nI (by omega)
    · rw [if_pos h5, ha]
      exact congrArg nI (by omega)
theorem gvF_md {rec : Int32 → Int32 → Int32 → Int32 → SU → SU} {R : Int32 → Nat} {u : PU} {op w f c t : Int32} {g : Nat} (hR : ∀ f, R f ≤ 5) (hg : g ≤ 10) (h1 : ∀ f g c t s, (rec f g c t s).1 = s.1) (h : ∀ (f : Int32) (a : Nat) (c t : Int32) (s : SU), s.1 = op → s.2.1 = nI a → a ≤ 100 → (rec f (nI (g + 1)) c t s).2.1 = nI (max a (g + 1 + R f))) : ∀ (i b : Nat) (s : SU), s.1 = op → s.2.1 = nI b → g ≤ b → b ≤ 100 → (gvF rec u w f (nI g) c t i s).2.1 = nI (max b (g + mdF R u w f i))
  | 0, b, s, _, hb, hgb, _ => by
    rw [gvF, hb, mdF]
    exact congrArg nI (by omega)
  | i + 1, b, s, hs, hb, hgb, hb5 => by
    have e := gvF_md (u := u) (w := w) (f := f) (c := c) (t := t) hR hg h1 h i b s hs hb hgb hb5
    have e1 : (gvF rec u w f (nI g) c t i s).1 = op := by rw [gvF_1 h1, hs]
    have hmd := mdF_le (rec := R) (u := u) (w := w) (f := f) (k := 5) hR i
    rw [gvF, mdF]
    cases hf : hbI f (nI i) with
    | false => rw [if_neg (by decide), Bool.false_and, if_neg (by decide)]; exact e
    | true =>
      cases hg2 : fitI u (nI i) w with
      | false => rw [if_pos rfl, if_neg (by decide), Bool.and_false, if_neg (by decide)]; exact e
      | true =>
        rw [if_pos rfl, if_pos rfl, Bool.and_true, if_pos rfl, nI_1, h _ _ _ _ _ e1 e (by omega)]
        exact congrArg nI (by omega)
theorem gv_md (u : PU) (op : Int32) : ∀ (k g a : Nat) (f c t : Int32) (s : SU), s.1 = op → s.2.1 = nI a → a ≤ 100 → g + k ≤ 10 → k ≤ 5 → (gv u k f (nI g) c t s).2.1 = nI (max a (g + md u op k f))
  | 0, g, a, f, c, t, s, hs, ha, h5, hk, hk5 => by
    rw [gv, cm_md ha (by omega) (by omega)]
    rfl
  | k + 1, g, a, f, c, t, s, hs, ha, h5, hk, hk5 => by
    have hm := md_le u op k f
    rw [gv, md, hs]
    cases hop : hbI op (nI (4 - k)) with
    | false =>
      rw [if_neg (by decide), if_neg (by decide)]
      exact gv_md u op k g a f c t s hs ha h5 (by omega) (by omega)
    | true =>
      rw [if_pos rfl, if_pos rfl]
      have e0 := gv_md u op k g a f c (t * 10) s hs ha h5 (by omega) (by omega)
      rw [gvF_md (R := md u op k) (op := op) (fun f => Nat.le_trans (md_le u op k f) (by omega)) (by omega) (gv_1 u k) (fun f a c t s h1 h2 h3 => ?_) 5 _ _ (by rw [gv_1, hs]) e0 (by omega) (by omega)]
      · exact congrArg nI (by omega)
      · exact gv_md u op k (g + 1) a f c t s h1 h2 h3 (by omega) (by omega)
theorem neg_lt {x : Int32} {g : Nat} (hx : x < 0) (hg : g < 2 ^ 31) : x < nI g := by
  rw [Int32.lt_iff_toInt_lt] at hx ⊢
  rw [nI_toInt hg]
  have : (0 : Int32).toInt = 0 := rfl
  omega
theorem gv_mdn (u : PU) (op : Int32) : ∀ (k g : Nat) (f c t : Int32) (s : SU), s.1 = op → s.2.1 < 0 → g + k ≤ 10 → k ≤ 5 → (gv u k f (nI g) c t s).2.1 = nI (g + md u op k f)
  | 0, g, f, c, t, s, hs, ha, hk, hk5 => by
    rw [gv, md]
    unfold cmU
    rw [if_pos (neg_lt ha (by omega))]
    rfl
  | k + 1, g, f, c, t, s, hs, ha, hk, hk5 => by
    have hm := md_le u op k f
    rw [gv, md, hs]
    cases hop : hbI op (nI (4 - k)) with
    | false =>
      rw [if_neg (by decide), if_neg (by decide)]
      exact gv_mdn u op k g f c t s hs ha (by omega) (by omega)
    | true =>
      rw [if_pos rfl, if_pos rfl]
      have e0 := gv_mdn u op k g f c (t * 10) s hs ha (by omega) (by omega)
      rw [gvF_md (R := md u op k) (op := op) (fun f => Nat.le_trans (md_le u op k f) (by omega)) (by omega) (gv_1 u k) (fun f a c t s h1 h2 h3 => gv_md u op k (g + 1) a f c t s h1 h2 h3 (by omega) (by omega)) 5 _ _ (by rw [gv_1, hs]) e0 (by omega) (by omega)]
      exact congrArg nI (by omega)
theorem se_md (u : PU) (op f : Int32) : (seU u op f).2.1 = nI (md u op 5 f) := by
  have h := gv_mdn u op 5 0 f 0 0 (op, -1, 0, 0) rfl (show (-1 : Int32) < 0 by decide) (by omega) (by omega)
  rw [Nat.zero_add] at h
  exact h
def fN (k : Nat) : Nat := if k ≤ 1 then 1 else if k = 2 then 2 else if k = 3 then 6 else if k = 4 then 24 else 120
theorem fN_I : ∀ k, k < 6 → faI (nI k) = nI (fN k) ∧ faN k = nI (fN k) ∧ fN k ≤ 120 ∧ 0 < fN k := by decide +kernel
def shN (u : PU) (p m : Nat) : Nat → Nat
  | 0 => 0
  | i + 1 => if ¬ sbI (nI i) (nI m) = 0 then shN u p m i else shN u p m i + fN (pcN i) * fN (pcN m - pcN i) * (md u (pOp u) 5 (nI i ||| 1 <<< (nI p &&& 31)) - md u (pOp u) 5 (nI i))
theorem bc_sub {i m : Nat} (hi : i < 32) (hm : m < 32) (h : pcN i ≤ pcN m) : bcI (nI m) + 1 - 1 - bcI (nI i) = nI (pcN m - pcN i) := by
  have h5 := pc_5 m hm
  rw [bc_pc i hi, bc_pc m hm, nI_1, show (1 : Int32) = nI 1 from rfl, pk_sub (by omega), Nat.add_sub_cancel, pk_sub h]
theorem shA_N {u : PU} {Q : Int32 → SU} (hQ : ∀ fr, seU u (pOp u) fr = Q fr) {p m : Nat} (hp : p < 5) (hm : m < 32) : ∀ i, i ≤ 32 → shA Q (nI p) m i = nI (shN u p m i) ∧ shN u p m i ≤ i * 72000
  | 0, _ => ⟨rfl, Nat.zero_le _⟩
  | i + 1, hi => by
    obtain ⟨e, hb⟩ := shA_N hQ hp hm i (by omega)
    rw [shA, shN]
    by_cases h1 : sbI (nI i) (nI m) = 0
    · rw [if_neg (fun z => z h1), if_neg (fun z => z h1)]
      have hpc := pc_le i (by omega) m hm h1
      have h5 := pc_5 m hm
      obtain ⟨a1, -, a3, -⟩ := fN_I (pcN i) (by omega)
      obtain ⟨b1, -, b3, -⟩ := fN_I (pcN m - pcN i) (by omega)
      have hmo := md_mono u (pOp u) 5 (nI i) (nI i ||| 1 <<< (nI p &&& 31)) (sb5_or _ _)
      have hle := md_le u (pOp u) 5 (nI i ||| 1 <<< (nI p &&& 31))
      rw [e, bc_pc i (by omega), a1, ← bc_pc i (by omega), bc_sub (by omega) hm hpc, b1, ← hQ, ← hQ, se_md, se_md, pk_sub hmo, pk_mul, pk_mul, nI_add]
      refine ⟨rfl, ?_⟩
      have c1 : fN (pcN i) * fN (pcN m - pcN i) ≤ 120 * 120 := Nat.mul_le_mul a3 b3
      have c2 : fN (pcN i) * fN (pcN m - pcN i) * (md u (pOp u) 5 (nI i ||| 1 <<< (nI p &&& 31)) - md u (pOp u) 5 (nI i)) ≤ 120 * 120 * 5 := Nat.mul_le_mul c1 (by omega)
      omega
    · rw [if_pos h1, if_pos h1]
      exact ⟨e, Nat.le_trans hb (Nat.mul_le_mul_right _ (Nat.le_succ i))⟩
theorem frN_gcd2 {b a : Nat} (ha : a < 2 ^ 31) (hb : b < 2 ^ 31) : frN 64 (nI b) (nI a) = nI (Nat.gcd b a) := by
  rcases Nat.lt_or_ge b a with h | h
  · rw [frN, if_neg (nI_nle (by omega) ha), pk_rem hb (by omega) ha, Nat.mod_eq_of_lt h]
    refine frN_gcd 62 a b ha hb (by omega) ?_
    have h2 : a * b < 2 ^ 31 * 2 ^ 31 := Nat.mul_lt_mul'' ha hb
    omega
  · rw [frN_gcd 63 b a hb ha h ?_, Nat.gcd_comm]
    have h2 : b * a < 2 ^ 31 * 2 ^ 31 := Nat.mul_lt_mul'' hb ha
    omega
theorem frI_eq2 {a b : Nat} {up : Bool} (ha : a < 2 ^ 31) (hb : b < 2 ^ 31) (hb0 : 0 < b) : frI (nI a) (nI b) up = (if up = true then nI a else nI b) / nI (Nat.gcd b a) := by
  unfold frI
  rw [frN_gcd2 ha hb, if_neg (nI_nle (Nat.gcd_pos_of_pos_left _ hb0) (Nat.lt_of_le_of_lt (Nat.gcd_le_left _ hb0) hb))]
theorem sh_d1 : ∀ U, U < 32 → ∀ j, j < 5 → ∀ i, i < 32 → hbI (nI U) (nI j) = true → decide (sbI (nI i) (nI (clrN U j)) = 0) = (decide (sbI (nI i) (nI U) = 0) && !hbI (nI i) (nI j)) := by decide +kernel
theorem sh_d2 : ∀ U, U < 32 → ∀ j, j < 5 → hbI (nI U) (nI j) = true → pcN U = pcN (clrN U j) + 1 ∧ clrN U j ≤ U := by decide +kernel
theorem sh_d3 : ∀ i, i < 32 → ∀ m, m < 32 → sbI (nI i) (nI m) = 0 → i ≤ m := by decide +kernel
theorem sh_d4 : ∀ U, U < 32 → ∀ j, j < 5 → ∀ i, i < 32 → (hbI (nI U) (nI j) && decide (sbI (nI i) (nI U) = 0)) = true → (decide (setN i j ≤ U) && decide (sbI (nI (setN i j)) (nI U) = 0)) = true := by decide +kernel
theorem shA_c {Q : Int32 → SU} {p m : Nat} (hm : m < 32) : ∀ k, m + 1 + k ≤ 32 → shA Q (nI p) m (m + 1 + k) = shA Q (nI p) m (m + 1)
  | 0, _ => rfl
  | k + 1, h => by
    show shA Q (nI p) m (m + 1 + k + 1) = _
    rw [shA, if_pos (fun z => by have := sh_d3 (m + 1 + k) (by omega) m hm z; omega)]
    exact shA_c hm k (by omega)
theorem su_sh {Q : Int32 → SU} {V : Nat → Int32} {U j : Nat} (hU : U < 32) (hj : j < 5) (hb : hbI (nI U) (nI j) = true) : ∀ i, i ≤ U + 1 → suI (shV Q U V (U + 1)) (pcN U) U j i = shA Q (nI j) (clrN U j) i
  | 0, _ => rfl
  | i + 1, hi => by
    have e := su_sh (V := V) (Q := Q) hU hj hb i (by omega)
    have d1 := sh_d1 U hU j hj i (by omega) hb
    obtain ⟨d2, d22⟩ := sh_d2 U hU j hj hb
    have h5 := pc_5 U hU
    rw [suI, shA, e]
    by_cases h1 : sbI (nI i) (nI U) = 0
    · rw [if_neg (fun z => z h1)]
      cases h2 : hbI (nI i) (nI j) with
      | true =>
        rw [if_pos rfl]
        rw [decide_eq_true h1, h2] at d1
        rw [if_pos (of_decide_eq_false d1)]
      | false =>
        rw [if_neg (by decide)]
        rw [decide_eq_true h1, h2] at d1
        have h3 : sbI (nI i) (nI (clrN U j)) = 0 := of_decide_eq_true d1
        rw [if_neg (fun z => z h3)]
        have hpc := pc_le i (by omega) (clrN U j) (by omega) h3
        have d4 := sh_d4 U hU j hj i (by omega) (by rw [hb, decide_eq_true h1]; rfl)
        rw [Bool.and_eq_true, decide_eq_true_eq, decide_eq_true_eq] at d4
        rw [bc_sub (by omega) (by omega) hpc, bc_pc i (by omega), (fN_I (pcN i) (by omega)).1, (fN_I (pcN i) (by omega)).2.1, show pcN U - 1 - pcN i = pcN (clrN U j) - pcN i by omega, (fN_I (pcN (clrN U j) - pcN i) (by omega)).1, (fN_I (pcN (clrN U j) - pcN i) (by omega)).2.1, shV_val Q U V (U + 1) i (by omega) h1, shV_val Q U V (U + 1) (setN i j) (by omega) d4.2, set_eq j hj i (by omega)]
    · rw [if_pos h1]
      rw [decide_eq_false h1] at d1
      rw [if_pos (of_decide_eq_false (by rw [d1]; rfl))]
set_option maxRecDepth 20000 in
theorem sh_E {G : kx_G} {d N m : Nat} {h : kx_H} {up : Bool} {U a : Nat} {w1 : Value} {res : kx_R} (hd : 20 ≤ d) (hU : U < 32) (ha : a < 2 ^ 31) (he : res = (some (.int ((if up = true then nI a else nI (fN (pcN U))) / nI (Nat.gcd (fN (pcN U)) a))), N, h)) : kx_Ok mX5_share d 0 0 G 0 0 173 [(0, .ref m), (1, w1), (2, .int (kb up)), (3, .int (nI U)), (4, .int (nI (pcN U))), (5, .int (nI a))] [] N h res := by
  refine ko_iload (i := 5) dX5_share_173 rfl ?_
  refine ko_iload (i := 4) dX5_share_175 rfl ?_
  refine ko_callSr lk_X5_159 dX5_share_177 (fn_orders (d := d - 1) (t := pcN U) (by have := pc_5 U hU; omega)) rfl rfl (by omega) (by omega) (by omega) (Nat.le_of_ble_eq_true rfl) ?_
  rw [(fN_I (pcN U) (by have := pc_5 U hU; omega)).2.1]
  refine ko_iload_n (i := 2) dX5_share_180 rfl rfl ?_
  refine ko_callSr lk_X5_162 dX5_share_181 (fn_mfraction (d := d - 1) (a := a) (b := fN (pcN U)) ha (by have := pc_5 U hU; have := (fN_I (pcN U) (by omega)).2.2.1; omega) (by have := pc_5 U hU; exact (fN_I (pcN U) (by omega)).2.2.2) (by omega)) rfl rfl (by omega) (by omega) (by omega) (Nat.le_of_ble_eq_true rfl) ?_
  refine ko_iret dX5_share_184 rfl (Nat.le_of_ble_eq_true rfl) (Nat.le_of_ble_eq_true rfl) ?_
  rw [he]
set_option maxRecDepth 20000 in
theorem sh_0 {G : kx_G} {d N m : Nat} {h : kx_H} {up : Bool} {U p : Nat} {res : kx_R} (hd : 20 ≤ d) (hU : U < 32) (hp5 : p < 5) (hpU : hbI (nI U) (nI p) = false) (K : kx_Ok mX5_share d 0 0 G 0 0 173 [(0, .ref m), (1, .int (nI p)), (2, .int (kb up)), (3, .int (nI U)), (4, .int (nI (pcN U))), (5, .int 0)] [] N h res) : kx_Ok mX5_share d 0 0 G 0 0 84 [(0, .ref m), (1, .int (nI p)), (2, .int (kb up)), (3, .int (nI U)), (4, .int (nI (pcN U))), (5, .int 0)] [] N h res := by
  refine ko_iconst (v := 0) dX5_share_84 (by decide) ?_
  refine ko_istore (i := 6) (lv' := [(0, _), (1, _), (2, _), (3, _), (4, _), (5, _), (6, _)]) dX5_share_85 (by decide) rfl rfl rfl ?_
  refine ko_iload (i := 6) dX5_share_87 rfl ?_
  refine ko_iload_n (i := 3) dX5_share_89 rfl rfl ?_
  refine ko_icmp_gt (tgt := 173) dX5_share_90 (by decide) (fun c_90 => ?_) (fun c_90 => ?_)
  · exact absurd (show nI U < nI 0 from c_90) (nI_nlt (by omega) (by omega))
  · refine ko_iload_n (i := 3) dX5_share_93 rfl rfl ?_
    refine ko_iload_n (i := 1) dX5_share_94 rfl rfl ?_
    refine ko_callSr lk_X5_63 dX5_share_95 (fn_mhas (by omega)) rfl rfl (by omega) (by omega) (by omega) (Nat.le_of_ble_eq_true rfl) ?_
    first | refine ko_ifb_eq (tgt := 173) dX5_share_98 (by decide) (fun c_98 => ?_) (fun c_98 => ?_) | refine ko_if_eq (tgt := 173) dX5_share_98 (by decide) (fun c_98 => ?_) (fun c_98 => ?_)
    · refine ko_keep [0, 1, 2, 3, 4, 5] rfl K
    · exact absurd c_98 (by rw [hpU]; decide)
set_option maxRecDepth 20000 in
theorem sh_2 {G : kx_G} {d N m : Nat} {h : kx_H} {up : Bool} {U p : Nat} {res : kx_R} (K : kx_Ok mX5_share d 0 0 G 0 0 87 [(0, .ref m), (1, .int (nI p)), (2, .int (kb up)), (3, .int (nI U)), (4, .int (nI (pcN U))), (5, .int 0), (6, .int 0)] [] N h res) : kx_Ok mX5_share d 0 0 G 0 0 84 [(0, .ref m), (1, .int (nI p)), (2, .int (kb up)), (3, .int (nI U)), (4, .int (nI (pcN U))), (5, .int 0)] [] N h res := by
  refine ko_iconst (v := 0) dX5_share_84 (by decide) ?_
  refine ko_istore (i := 6) (lv' := [(0, _), (1, _), (2, _), (3, _), (4, _), (5, _), (6, _)]) dX5_share_85 (by decide) rfl rfl rfl ?_
  exact K
set_option maxRecDepth 20000 in
theorem y_share1 {G : kx_G} {d N m : Nat} {h : kx_H} {T : Nat → Int32} {L : Nat} {u : PU} {n C : Nat} {Ac K : Nat → PU} {kf : Nat → Int32} {sd : Int64} {j : Nat} {up : Bool} {Q : Int32 → SU} (hj : j < n) (op : hbI (pOp u) (nI j) = true) (hQ : ∀ fr, seU u (pOp u) fr = Q fr)  (hM : kM h m T L u n C Ac K kf sd) (hw : WF u n) (hd : 20 ≤ d) : ∃ g, kx_Fn mX5_share d 0 0 G [.ref m, .int (nI j), .int (kb up)] N h (some (.int (frI 0 1 up)), N, g) ∧ kM g m T L u n C Ac K kf sd ∧ kFr h g m 10 := by
  obtain ⟨o, Kf, f, tr, rp, rk, bk, kp, zk, va, hi9, r1, r2, r3, r4, r5, r6, r7, r8, r9, rC, rL⟩ := id hM
  obtain ⟨m0, m1, m2, m3, m4, m5, m6, m7, m8, m9, m10⟩ := id hi9
  have hn5 := hw.2.1
  obtain ⟨p1, p2, p3, p4, p5, p6, p7⟩ := id r6
  obtain ⟨U, hU0, eU⟩ := U_of hw
  have hU : U < 32 := lt32 hU0 hn5
  have hQ9 : ∀ i, i < 32 → sbI (nI i) (nI U) = 0 → blk u n (nI i) n 0 0 0 0 (Mk u n n) (Mk u n n) (pOp u, -9, 9999, 0) = Q (nI i) := fun i hi hs => by
    rw [← hQ]
    refine serve_u hw (fun p hp => ?_)
    cases h1 : hbI (nI i) (nI p) with
    | false => rfl
    | true =>
      have h2 := sb_hb i hi U hU hs p (by omega) h1
      rw [← eU, ← unb_bit hw hp, Bool.and_eq_true] at h2
      rw [h2.2]
      rfl
  have fr : kFr h (fH (kx_up h (m + 10) (ka 32 (shV Q U va (U + 1)))) m o (shT Q U (0, mSm o, mSo o, mSw o) (U + 1))) m 10 := (kFr.up (by omega)).tr (kFr.up (by omega))
  refine ⟨(fH (kx_up h (m + 10) (ka 32 (shV Q U va (U + 1)))) m o (shT Q U (0, mSm o, mSo o, mSw o) (U + 1))), kx_Fn_of rfl (Nat.le_of_ble_eq_true rfl) rfl ?_ (kM_dom hM fr), ⟨_, Kf, f, tr, rp, rk, bk, kp, zk, _, kMi_o (kMi_va hi9 _) _, r1, r2, r3, r4, r5, r6, r7, r8, r9, rC, rL⟩, fr⟩
  · refine ko_aload_n (i := 0) dX5_share_0 rfl rfl ?_
    refine ko_iconst (v := 0) dX5_share_1 (by decide) ?_
    refine ko_put fl_X5_41 dX5_share_2 m0 rfl rfl (Nat.le_of_ble_eq_true rfl) ?_
    refine ko_h (ku_same m0) ?_
    refine ko_aload_n (i := 0) dX5_share_5 rfl rfl ?_
    refine ko_iload_n (i := 1) dX5_share_6 rfl rfl ?_
    refine ko_callVr lk_X5_108 dX5_share_7 (fn_noPerson (d := d - 1) m0 r2 hn5 (by omega)) rfl rfl m0 rfl rfl (by omega) (by omega) (by omega) (Nat.le_of_ble_eq_true rfl) ?_
    first | refine ko_ifb_eq (tgt := 15) dX5_share_10 (by decide) (fun c_10 => ?_) (fun c_10 => ?_) | refine ko_if_eq (tgt := 15) dX5_share_10 (by decide) (fun c_10 => ?_) (fun c_10 => ?_)
    · refine ko_aload_n (i := 0) dX5_share_15 rfl rfl ?_
      refine ko_callVr lk_X5_147 dX5_share_16 (fn_meveryone (n := n) (d := d - 1) m0) rfl rfl m0 rfl rfl (by omega) (by omega) (by omega) (Nat.le_of_ble_eq_true rfl) ?_
      refine ko_aload_n (i := 0) dX5_share_19 rfl rfl ?_
      refine ko_get fl_X5_22 dX5_share_20 m0 rfl ?_
      refine ko_bipush (v := 15) dX5_share_23 (by decide) ?_
      refine ko_iald dX5_share_25 m5 (in15 (i := 15) (by omega)) ?_
      refine ko_st (st' := [.int (f 15), .int (evI (nI n))]) (congrArg (fun z => [Value.int (f 15), .int (evI z)]) r2) ?_
      rw [p4]
      refine ko_iconst (v := (-1)) dX5_share_26 (by decide) ?_
      refine ko_ixor dX5_share_27 ?_
      refine ko_iand dX5_share_28 ?_
      rw [show evI (nI n) &&& (pOp u ^^^ -1) = nI U from by rw [← eU, ← hw.1]; rfl]
      refine ko_istore_n (i := 3) (lv' := [(0, _), (1, _), (2, _), (3, _)]) dX5_share_29 rfl (by decide) rfl rfl rfl ?_
      refine ko_iload_n (i := 3) dX5_share_30 rfl rfl ?_
      refine ko_callSr lk_X5_122 dX5_share_31 (fn_many (d := d - 1)) rfl rfl (by omega) (by omega) (by omega) (Nat.le_of_ble_eq_true rfl) ?_
      rw [mn_bc U hU, bc_pc U hU]
      refine ko_istore (i := 4) (lv' := [(0, _), (1, _), (2, _), (3, _), (4, _)]) dX5_share_34 (by decide) rfl rfl rfl ?_
      refine ko_iconst (v := 0) dX5_share_36 (by decide) ?_
      refine ko_istore (i := 5) (lv' := [(0, _), (1, _), (2, _), (3, _), (4, _), (5, _)]) dX5_share_37 (by decide) rfl rfl rfl ?_
      refine ko_iconst (v := 0) dX5_share_39 (by decide) ?_
      refine ko_istore (i := 6) (lv' := [(0, _), (1, _), (2, _), (3, _), (4, _), (5, _), (6, _)]) dX5_share_40 (by decide) rfl rfl rfl ?_
      refine ko_h (fH_self (h := h) m0).symm ?_
      refine ko_h (congrArg (fun z => fH z m o (0, mSm o, mSo o, mSw o)) (ku_same m10).symm) ?_
      refine sh_L1 (V := va) (Q := Q) r2 m2 r5 m5 r6 hw hd hU hQ9 ?_
      refine sh_0 hd hU (by omega) (by rw [← eU, ← unb_bit hw hj, op, Bool.not_true, Bool.and_false]) ?_
      refine sh_E (a := 0) hd hU (by omega) ?_
      have hb0 := (fN_I (pcN U) (by have := pc_5 U hU; omega))
      rw [Nat.gcd_zero_right]
      cases up
      · rw [if_neg (by decide), pk_div (by omega) hb0.2.2.2 (by omega), Nat.div_self hb0.2.2.2]
        rfl
      · rw [if_pos rfl, pk_div (by omega) hb0.2.2.2 (by omega), Nat.zero_div]
        rfl
    · exact absurd c_10 (by rw [hasT hn5 hj]; decide)
set_option maxRecDepth 20000 in
theorem y_share2 {G : kx_G} {d N m : Nat} {h : kx_H} {T : Nat → Int32} {L : Nat} {u : PU} {n C : Nat} {Ac K : Nat → PU} {kf : Nat → Int32} {sd : Int64} {j mm : Nat} {up : Bool} {Q : Int32 → SU} (hj : j < n) (op : hbI (pOp u) (nI j) = false) (hQ : ∀ fr, seU u (pOp u) fr = Q fr) (hm3 : unbI u &&& (1 <<< (nI j &&& 31) ^^^ (-1)) = nI mm) (hm : mm < 32)  (hM : kM h m T L u n C Ac K kf sd) (hw : WF u n) (hd : 20 ≤ d) : ∃ g, kx_Fn mX5_share d 0 0 G [.ref m, .int (nI j), .int (kb up)] N h (some (.int (frI (shA Q (nI j) mm (mm + 1)) (faI (bcI (nI mm) + 1)) up)), N, g) ∧ kM g m T L u n C Ac K kf sd ∧ kFr h g m 10 := by
  obtain ⟨o, Kf, f, tr, rp, rk, bk, kp, zk, va, hi9, r1, r2, r3, r4, r5, r6, r7, r8, r9, rC, rL⟩ := id hM
  obtain ⟨m0, m1, m2, m3, m4, m5, m6, m7, m8, m9, m10⟩ := id hi9
  have hn5 := hw.2.1
  obtain ⟨p1, p2, p3, p4, p5, p6, p7⟩ := id r6
  obtain ⟨U, hU0, eU⟩ := U_of hw
  have hU : U < 32 := lt32 hU0 hn5
  have hQ9 : ∀ i, i < 32 → sbI (nI i) (nI U) = 0 → blk u n (nI i) n 0 0 0 0 (Mk u n n) (Mk u n n) (pOp u, -9, 9999, 0) = Q (nI i) := fun i hi hs => by
    rw [← hQ]
    refine serve_u hw (fun p hp => ?_)
    cases h1 : hbI (nI i) (nI p) with
    | false => rfl
    | true =>
      have h2 := sb_hb i hi U hU hs p (by omega) h1
      rw [← eU, ← unb_bit hw hp, Bool.and_eq_true] at h2
      rw [h2.2]
      rfl
  have fr : kFr h (fH (kx_up h (m + 10) (ka 32 (shV Q U va (U + 1)))) m o (shT Q U (0, mSm o, mSo o, mSw o) (U + 1))) m 10 := (kFr.up (by omega)).tr (kFr.up (by omega))
  refine ⟨(fH (kx_up h (m + 10) (ka 32 (shV Q U va (U + 1)))) m o (shT Q U (0, mSm o, mSo o, mSw o) (U + 1))), kx_Fn_of rfl (Nat.le_of_ble_eq_true rfl) rfl ?_ (kM_dom hM fr), ⟨_, Kf, f, tr, rp, rk, bk, kp, zk, _, kMi_o (kMi_va hi9 _) _, r1, r2, r3, r4, r5, r6, r7, r8, r9, rC, rL⟩, fr⟩
  · refine ko_aload_n (i := 0) dX5_share_0 rfl rfl ?_
    refine ko_iconst (v := 0) dX5_share_1 (by decide) ?_
    refine ko_put fl_X5_41 dX5_share_2 m0 rfl rfl (Nat.le_of_ble_eq_true rfl) ?_
    refine ko_h (ku_same m0) ?_
    refine ko_aload_n (i := 0) dX5_share_5 rfl rfl ?_
    refine ko_iload_n (i := 1) dX5_share_6 rfl rfl ?_
    refine ko_callVr lk_X5_108 dX5_share_7 (fn_noPerson (d := d - 1) m0 r2 hn5 (by omega)) rfl rfl m0 rfl rfl (by omega) (by omega) (by omega) (Nat.le_of_ble_eq_true rfl) ?_
    first | refine ko_ifb_eq (tgt := 15) dX5_share_10 (by decide) (fun c_10 => ?_) (fun c_10 => ?_) | refine ko_if_eq (tgt := 15) dX5_share_10 (by decide) (fun c_10 => ?_) (fun c_10 => ?_)
    · refine ko_aload_n (i := 0) dX5_share_15 rfl rfl ?_
      refine ko_callVr lk_X5_147 dX5_share_16 (fn_meveryone (n := n) (d := d - 1) m0) rfl rfl m0 rfl rfl (by omega) (by omega) (by omega) (Nat.le_of_ble_eq_true rfl) ?_
      refine ko_aload_n (i := 0) dX5_share_19 rfl rfl ?_
      refine ko_get fl_X5_22 dX5_share_20 m0 rfl ?_
      refine ko_bipush (v := 15) dX5_share_23 (by decide) ?_
      refine ko_iald dX5_share_25 m5 (in15 (i := 15) (by omega)) ?_
      refine ko_st (st' := [.int (f 15), .int (evI (nI n))]) (congrArg (fun z => [Value.int (f 15), .int (evI z)]) r2) ?_
      rw [p4]
      refine ko_iconst (v := (-1)) dX5_share_26 (by decide) ?_
      refine ko_ixor dX5_share_27 ?_
      refine ko_iand dX5_share_28 ?_
      rw [show evI (nI n) &&& (pOp u ^^^ -1) = nI U from by rw [← eU, ← hw.1]; rfl]
      refine ko_istore_n (i := 3) (lv' := [(0, _), (1, _), (2, _), (3, _)]) dX5_share_29 rfl (by decide) rfl rfl rfl ?_
      refine ko_iload_n (i := 3) dX5_share_30 rfl rfl ?_
      refine ko_callSr lk_X5_122 dX5_share_31 (fn_many (d := d - 1)) rfl rfl (by omega) (by omega) (by omega) (Nat.le_of_ble_eq_true rfl) ?_
      rw [mn_bc U hU, bc_pc U hU]
      refine ko_istore (i := 4) (lv' := [(0, _), (1, _), (2, _), (3, _), (4, _)]) dX5_share_34 (by decide) rfl rfl rfl ?_
      refine ko_iconst (v := 0) dX5_share_36 (by decide) ?_
      refine ko_istore (i := 5) (lv' := [(0, _), (1, _), (2, _), (3, _), (4, _), (5, _)]) dX5_share_37 (by decide) rfl rfl rfl ?_
      refine ko_iconst (v := 0) dX5_share_39 (by decide) ?_
      refine ko_istore (i := 6) (lv' := [(0, _), (1, _), (2, _), (3, _), (4, _), (5, _), (6, _)]) dX5_share_40 (by decide) rfl rfl rfl ?_
      refine ko_h (fH_self (h := h) m0).symm ?_
      refine ko_h (congrArg (fun z => fH z m o (0, mSm o, mSo o, mSw o)) (ku_same m10).symm) ?_
      refine sh_L1 (V := va) (Q := Q) r2 m2 r5 m5 r6 hw hd hU hQ9 ?_
      have hpU : hbI (nI U) (nI j) = true := by
        rw [← eU, ← unb_bit hw hj, op, hb_ev n (by omega) j (by omega), decide_eq_true hj]
        rfl
      refine sh_2 (sh_L2 hd hU (by omega) hpU ?_)
      have emm : nI mm = nI (clrN U j) := by rw [← hm3, eU, clr_eq j (by omega) U hU]
      have hcl := (sh_d2 U hU j (by omega) hpU)
      have emm2 : mm = clrN U j := (nI_eq (by omega) (by omega)).mp emm
      subst emm2
      obtain ⟨e1, e2⟩ := shA_N hQ (show j < 5 by omega) hm (U + 1) (by omega)
      have e3 := shA_c (Q := Q) (p := j) hm (U - clrN U j) (by omega)
      rw [show clrN U j + 1 + (U - clrN U j) = U + 1 by omega] at e3
      rw [su_sh hU (by omega) hpU (U + 1) (Nat.le_refl _), e1]
      refine sh_E hd hU (by omega) ?_
      have h5 := pc_5 U hU
      rw [← e3, e1, bc_pc _ hm, nI_1, ← hcl.1, (fN_I (pcN U) (by omega)).1, frI_eq2 (by omega) (by have := (fN_I (pcN U) (by omega)).2.2.1; omega) ((fN_I (pcN U) (by omega)).2.2.2)]
    · exact absurd c_10 (by rw [hasT hn5 hj]; decide)
