/-! ===== the reference's reading of a text: people, kin, the land ===== -/
set_option maxRecDepth 20000 in
theorem rP_0 {G : kx_G} {d N m pl r : Nat} {h : kx_H} {o : MO} {rp rk : Nat → Int32} {res : kx_R} (K : kx_Ok mX5_readPerson d 0 0 G 0 0 9 [(0, .ref m), (1, .int (nI (3 * r))), (2, .int (nI 0))] [] N (rH h m o rp rk (nI pl) (nI r)) res) : kx_Ok mX5_readPerson d 0 0 G 0 0 0 [(0, .ref m)] [] N (rH h m o rp rk (nI pl) (nI r)) res := by
  refine ko_iconst (v := 3) dX5_readPerson_0 (by decide) ?_
  refine ko_aload_n (i := 0) dX5_readPerson_1 rfl rfl ?_
  refine ko_get fl_X5_60 dX5_readPerson_2 rH_o rfl ?_
  refine ko_imul dX5_readPerson_5 ?_
  rw [show (3 : Int32) * nI r = nI (3 * r) from pk_mul 3 r]
  refine ko_istore_n (i := 1) (lv' := [(0, _), (1, _)]) dX5_readPerson_6 rfl (by decide) rfl rfl rfl ?_
  refine ko_iconst (v := 0) dX5_readPerson_7 (by decide) ?_
  refine ko_istore_n (i := 2) (lv' := [(0, _), (1, _), (2, _)]) dX5_readPerson_8 rfl (by decide) rfl rfl rfl ?_
  exact K
set_option maxRecDepth 20000 in
theorem rP_ok {G : kx_G} {d N m L pl r : Nat} {h : kx_H} {o : MO} {T rp rk : Nat → Int32} {res : kx_R} {k mo w : Nat} (t1 : h (m + 1) = some (ka 48 T)) (r1 : mTs o = nI L) (hL : L ≤ 48) (hr : r < 5) (hk : k < 3) (hmo : mo = if k = 2 then 3 else 9) (hpl : pl < L) (hi : inI (T pl - 48) 0 (nI mo) = true) (ev : T pl - 48 = nI w) (hw9 : w ≤ 9) (hd : 2 ≤ d) (K : kx_Ok mX5_readPerson d 0 0 G 0 0 9 [(0, .ref m), (1, .int (nI (3 * r))), (2, .int (nI (k + 1)))] [] N (rH h m o (upd rp (3 * r + k) (nI w)) rk (nI (pl + 1)) (nI r)) res) : kx_Ok mX5_readPerson d 0 0 G 0 0 9 [(0, .ref m), (1, .int (nI (3 * r))), (2, .int (nI k))] [] N (rH h m o rp rk (nI pl) (nI r)) res := by
  refine ko_iload_n (i := 2) dX5_readPerson_9 rfl rfl ?_
  refine ko_iconst (v := 3) dX5_readPerson_10 (by decide) ?_
  refine ko_icmp_ge (tgt := 54) dX5_readPerson_11 (by decide) (fun c_11 => ?_) (fun c_11 => ?_)
  · exact absurd (show nI 3 ≤ nI k from c_11) (nI_ge (by omega) (by omega))
  · refine ko_aload_n (i := 0) dX5_readPerson_14 rfl rfl ?_
    refine ko_iconst (v := 0) dX5_readPerson_15 (by decide) ?_
    refine ko_iload_n (i := 2) dX5_readPerson_16 rfl rfl ?_
    refine ko_iconst (v := 2) dX5_readPerson_17 (by decide) ?_
    refine ko_icmp_ne (tgt := 25) dX5_readPerson_18 (by decide) (fun c_18 => ?_) (fun c_18 => ?_)
    · obtain rfl : mo = 9 := by rw [hmo, if_neg (fun z => c_18 (by rw [z]; rfl))]
      refine ko_bipush (v := 9) dX5_readPerson_25 (by decide) ?_
      refine ko_callVr lk_X5_71 dX5_readPerson_27 (fg_ok (d := d - 1) t1 r1 hL hpl hi ev (by omega)) rfl rfl rH_o rfl rfl (by omega) (by omega) (by omega) (Nat.le_of_ble_eq_true rfl) ?_
      refine ko_istore_n (i := 3) (lv' := [(0, _), (1, _), (2, _), (3, _)]) dX5_readPerson_30 rfl (by decide) rfl rfl rfl ?_
      refine ko_iload_n (i := 3) dX5_readPerson_31 rfl rfl ?_
      refine ko_bipush (v := (-9)) dX5_readPerson_32 (by decide) ?_
      refine ko_icmp_ne (tgt := 39) dX5_readPerson_34 (by decide) (fun c_34 => ?_) (fun c_34 => ?_)
      · refine ko_aload_n (i := 0) dX5_readPerson_39 rfl rfl ?_
        refine ko_get fl_X5_16 dX5_readPerson_40 rH_o rfl ?_
        refine ko_iload_n (i := 1) dX5_readPerson_43 rfl rfl ?_
        refine ko_iload_n (i := 2) dX5_readPerson_44 rfl rfl ?_
        refine ko_iadd dX5_readPerson_45 ?_
        rw [nI_add]
        refine ko_iload_n (i := 3) dX5_readPerson_46 rfl rfl ?_
        refine ko_iast dX5_readPerson_47 rH_p (vp_in_nI (show 3 * r + k < 15 by omega) (by omega)) ?_
        rw [nI_clamp (by omega)]
        refine ko_h (rH_rp _) ?_
        refine ko_inc1 (i := 2) (lv' := [(0, _), (1, _), (2, _), (3, _)]) dX5_readPerson_48 rfl (by decide) rfl rfl rfl ?_
        refine ko_goto (tgt := 9) dX5_readPerson_51 (by decide) ?_
        exact ko_keep [0, 1, 2] (lv' := [(0, _), (1, _), (2, .int (nI (k + 1)))]) (by rw [nI_succ]; rfl) K
      · exact absurd (show nI w < 0 by rw [show nI w = -9 from c_34]; decide) (nI_pos (by omega))
    · obtain rfl : mo = 3 := by rw [hmo, if_pos ((nI_eq (a := k) (b := 2) (by omega) (by omega)).mp c_18)]
      refine ko_iconst (v := 3) dX5_readPerson_21 (by decide) ?_
      refine ko_goto (tgt := 27) dX5_readPerson_22 (by decide) ?_
      refine ko_callVr lk_X5_71 dX5_readPerson_27 (fg_ok (d := d - 1) t1 r1 hL hpl hi ev (by omega)) rfl rfl rH_o rfl rfl (by omega) (by omega) (by omega) (Nat.le_of_ble_eq_true rfl) ?_
      refine ko_istore_n (i := 3) (lv' := [(0, _), (1, _), (2, _), (3, _)]) dX5_readPerson_30 rfl (by decide) rfl rfl rfl ?_
      refine ko_iload_n (i := 3) dX5_readPerson_31 rfl rfl ?_
      refine ko_bipush (v := (-9)) dX5_readPerson_32 (by decide) ?_
      refine ko_icmp_ne (tgt := 39) dX5_readPerson_34 (by decide) (fun c_34 => ?_) (fun c_34 => ?_)
      · refine ko_aload_n (i := 0) dX5_readPerson_39 rfl rfl ?_
        refine ko_get fl_X5_16 dX5_readPerson_40 rH_o rfl ?_
        refine ko_iload_n (i := 1) dX5_readPerson_43 rfl rfl ?_
        refine ko_iload_n (i := 2) dX5_readPerson_44 rfl rfl ?_
        refine ko_iadd dX5_readPerson_45 ?_
        rw [nI_add]
        refine ko_iload_n (i := 3) dX5_readPerson_46 rfl rfl ?_
        refine ko_iast dX5_readPerson_47 rH_p (vp_in_nI (show 3 * r + k < 15 by omega) (by omega)) ?_
        rw [nI_clamp (by omega)]
        refine ko_h (rH_rp _) ?_
        refine ko_inc1 (i := 2) (lv' := [(0, _), (1, _), (2, _), (3, _)]) dX5_readPerson_48 rfl (by decide) rfl rfl rfl ?_
        refine ko_goto (tgt := 9) dX5_readPerson_51 (by decide) ?_
        exact ko_keep [0, 1, 2] (lv' := [(0, _), (1, _), (2, .int (nI (k + 1)))]) (by rw [nI_succ]; rfl) K
      · exact absurd (show nI w < 0 by rw [show nI w = -9 from c_34]; decide) (nI_pos (by omega))
set_option maxRecDepth 20000 in
theorem rP_no {G : kx_G} {d N m L pl r : Nat} {h : kx_H} {o : MO} {T rp rk : Nat → Int32} {res : kx_R} {k mo : Nat} (t1 : h (m + 1) = some (ka 48 T)) (r1 : mTs o = nI L) (hL : L ≤ 48) (hk : k < 3) (hmo : mo = if k = 2 then 3 else 9) (hpl : pl ≤ L) (hno : L ≤ pl ∨ inI (T pl - 48) 0 (nI mo) = false) (hd : 2 ≤ d) (he : res = (some (.int 0), N, (rH h m o rp rk (nI pl) (nI r)))) : kx_Ok mX5_readPerson d 0 0 G 0 0 9 [(0, .ref m), (1, .int (nI (3 * r))), (2, .int (nI k))] [] N (rH h m o rp rk (nI pl) (nI r)) res := by
  refine ko_iload_n (i := 2) dX5_readPerson_9 rfl rfl ?_
  refine ko_iconst (v := 3) dX5_readPerson_10 (by decide) ?_
  refine ko_icmp_ge (tgt := 54) dX5_readPerson_11 (by decide) (fun c_11 => ?_) (fun c_11 => ?_)
  · exact absurd (show nI 3 ≤ nI k from c_11) (nI_ge (by omega) (by omega))
  · refine ko_aload_n (i := 0) dX5_readPerson_14 rfl rfl ?_
    refine ko_iconst (v := 0) dX5_readPerson_15 (by decide) ?_
    refine ko_iload_n (i := 2) dX5_readPerson_16 rfl rfl ?_
    refine ko_iconst (v := 2) dX5_readPerson_17 (by decide) ?_
    refine ko_icmp_ne (tgt := 25) dX5_readPerson_18 (by decide) (fun c_18 => ?_) (fun c_18 => ?_)
    · obtain rfl : mo = 9 := by rw [hmo, if_neg (fun z => c_18 (by rw [z]; rfl))]
      refine ko_bipush (v := 9) dX5_readPerson_25 (by decide) ?_
      refine ko_callVr lk_X5_71 dX5_readPerson_27 (fg_no (d := d - 1) t1 r1 hL hpl hno (by omega)) rfl rfl rH_o rfl rfl (by omega) (by omega) (by omega) (Nat.le_of_ble_eq_true rfl) ?_
      refine ko_istore_n (i := 3) (lv' := [(0, _), (1, _), (2, _), (3, _)]) dX5_readPerson_30 rfl (by decide) rfl rfl rfl ?_
      refine ko_iload_n (i := 3) dX5_readPerson_31 rfl rfl ?_
      refine ko_bipush (v := (-9)) dX5_readPerson_32 (by decide) ?_
      refine ko_icmp_ne (tgt := 39) dX5_readPerson_34 (by decide) (fun c_34 => ?_) (fun c_34 => ?_)
      · exact absurd rfl c_34
      · refine ko_iconst (v := 0) dX5_readPerson_37 (by decide) ?_
        refine ko_zret dX5_readPerson_38 rfl rfl (Nat.le_of_ble_eq_true rfl) (Nat.le_of_ble_eq_true rfl) ?_
        exact he
    · obtain rfl : mo = 3 := by rw [hmo, if_pos ((nI_eq (a := k) (b := 2) (by omega) (by omega)).mp c_18)]
      refine ko_iconst (v := 3) dX5_readPerson_21 (by decide) ?_
      refine ko_goto (tgt := 27) dX5_readPerson_22 (by decide) ?_
      refine ko_callVr lk_X5_71 dX5_readPerson_27 (fg_no (d := d - 1) t1 r1 hL hpl hno (by omega)) rfl rfl rH_o rfl rfl (by omega) (by omega) (by omega) (Nat.le_of_ble_eq_true rfl) ?_
      refine ko_istore_n (i := 3) (lv' := [(0, _), (1, _), (2, _), (3, _)]) dX5_readPerson_30 rfl (by decide) rfl rfl rfl ?_
      refine ko_iload_n (i := 3) dX5_readPerson_31 rfl rfl ?_
      refine ko_bipush (v := (-9)) dX5_readPerson_32 (by decide) ?_
      refine ko_icmp_ne (tgt := 39) dX5_readPerson_34 (by decide) (fun c_34 => ?_) (fun c_34 => ?_)
      · exact absurd rfl c_34
      · refine ko_iconst (v := 0) dX5_readPerson_37 (by decide) ?_
        refine ko_zret dX5_readPerson_38 rfl rfl (Nat.le_of_ble_eq_true rfl) (Nat.le_of_ble_eq_true rfl) ?_
        exact he
set_option maxRecDepth 20000 in
theorem rP_end {G : kx_G} {d N m pl r : Nat} {h : kx_H} {o : MO} {rp rk : Nat → Int32} {res : kx_R} (hr : r < 5) (he : res = (some (.int 1), N, (rH h m o rp (upd rk r 0) (nI pl) (nI (r + 1))))) : kx_Ok mX5_readPerson d 0 0 G 0 0 9 [(0, .ref m), (1, .int (nI (3 * r))), (2, .int (nI 3))] [] N (rH h m o rp rk (nI pl) (nI r)) res := by
  refine ko_iload_n (i := 2) dX5_readPerson_9 rfl rfl ?_
  refine ko_iconst (v := 3) dX5_readPerson_10 (by decide) ?_
  refine ko_icmp_ge (tgt := 54) dX5_readPerson_11 (by decide) (fun c_11 => ?_) (fun c_11 => ?_)
  · refine ko_aload_n (i := 0) dX5_readPerson_54 rfl rfl ?_
    refine ko_get fl_X5_19 dX5_readPerson_55 rH_o rfl ?_
    refine ko_aload_n (i := 0) dX5_readPerson_58 rfl rfl ?_
    refine ko_get fl_X5_60 dX5_readPerson_59 rH_o rfl ?_
    refine ko_iconst (v := 0) dX5_readPerson_62 (by decide) ?_
    refine ko_iast dX5_readPerson_63 rH_k (vp_in_nI hr (by omega)) ?_
    rw [nI_clamp (by omega)]
    refine ko_h (rH_rk _) ?_
    refine ko_aload_n (i := 0) dX5_readPerson_64 rfl rfl ?_
    refine ko_dup dX5_readPerson_65 rfl ?_
    refine ko_get fl_X5_60 dX5_readPerson_66 rH_o rfl ?_
    refine ko_iconst (v := 1) dX5_readPerson_69 (by decide) ?_
    refine ko_iadd dX5_readPerson_70 ?_
    rw [nI_1]
    refine ko_put fl_X5_60 dX5_readPerson_71 rH_o rfl rfl (Nat.le_of_ble_eq_true rfl) ?_
    refine ko_h (rH_m _ _) ?_
    refine ko_iconst (v := 1) dX5_readPerson_74 (by decide) ?_
    refine ko_zret dX5_readPerson_75 rfl rfl (Nat.le_of_ble_eq_true rfl) (Nat.le_of_ble_eq_true rfl) ?_
    exact he
  · exact absurd (show nI 3 ≤ nI 3 from nI_le (Nat.le_refl 3) (by omega)) c_11
theorem rp_1 {T : Nat → Int32} {n : Int32} {v : PU} {q r : Nat} (e : pN v = nI r) (hr : r < 5) : rpR T n v (nI q) = if ¬ 0 ≤ dgI T n (nI (q + 1)) then (nI (q + 1), v) else if ¬ 0 ≤ dgI T n (nI (q + 2)) then (nI (q + 2), v) else if dgI T n (nI (q + 3)) < 0 then (nI (q + 3), v) else if ¬ dgI T n (nI (q + 3)) ≤ 3 then (nI (q + 3), v) else (-9, adU v (dgI T n (nI (q + 1))) (dgI T n (nI (q + 2))) (dgI T n (nI (q + 3)))) := by
  unfold rpR
  rw [e, if_neg (show ¬ ¬ nI r < 5 from fun z => z (nI_lt (a := r) (b := 5) hr (by omega))), show nI q + 1 = nI (q + 1) from nI_add q 1, show nI q + 2 = nI (q + 2) from nI_add q 2, show nI q + 3 = nI (q + 3) from nI_add q 3]
theorem no3 {x : Int32} {w : Nat} (e : x = nI (48 + w)) (hw : w ≤ 9) (h : 3 < w) : inI (x - 48) 0 (nI 3) = false := by
  rw [e, fig_v, in_nI (by omega) (by omega)]
  exact decide_eq_false (by omega)
theorem yes_b {x : Int32} {w b : Nat} (e : x = nI (48 + w)) (hw : w ≤ b) (hb : b ≤ 9) : inI (x - 48) 0 (nI b) = true := by
  rw [e, fig_v, in_nI (by omega) (by omega)]
  exact decide_eq_true hw
theorem fn_mreadPerson {G : kx_G} {d N m L q r : Nat} {h : kx_H} {o : MO} {T rp rk : Nat → Int32} {v : PU} (t1 : h (m + 1) = some (ka 48 T)) (r1 : mTs o = nI L) (hL : L ≤ 48) (hd9 : rdR rp rk r v) (hr : r < 5) (hq : q + 1 ≤ L) (hd : 2 ≤ d) : ∃ (b : Bool) (rp' rk' : Nat → Int32) (pl' r' : Nat), kx_Fn mX5_readPerson d 0 0 G [.ref m] N (rH h m o rp rk (nI (q + 1)) (nI r)) (some (.int (kb b)), N, (rH h m o rp' rk' (nI pl') (nI r'))) ∧ (b = true → (rpR T (nI L) v (nI q)).1 = -9 ∧ rdR rp' rk' r' (rpR T (nI L) v (nI q)).2 ∧ pl' = q + 4 ∧ pl' ≤ L) ∧ (b = false → (rpR T (nI L) v (nI q)).1 = nI pl' ∧ pl' < 1000) := by
  rw [rp_1 hd9.1.1 hr]
  have fin0 : ∀ {rp' rk' : Nat → Int32} {pl' r' : Int32} {b : Bool}, kx_Ok mX5_readPerson d 0 0 G 0 0 9 [(0, .ref m), (1, .int (nI (3 * r))), (2, .int (nI 0))] [] N (rH h m o rp rk (nI (q + 1)) (nI r)) (some (.int (kb b)), N, (rH h m o rp' rk' pl' r')) → kx_Fn mX5_readPerson d 0 0 G [.ref m] N (rH h m o rp rk (nI (q + 1)) (nI r)) (some (.int (kb b)), N, (rH h m o rp' rk' pl' r')) := fun K => kx_Fn_of rfl (Nat.le_of_ble_eq_true rfl) rfl (rP_0 K) rH_dom
  rcases dg_cases (T := T) hL (show q + 1 < 1000 by omega) with ⟨s, hs, es, ls, ts⟩ | ⟨es, ls⟩
  · have i1 := yes_b ts hs (show 9 ≤ 9 by omega)
    have v1 : T (q + 1) - 48 = nI s := by rw [ts, fig_v]
    rw [es, if_neg (show ¬ ¬ 0 ≤ nI s from fun z => z (nI_pos' (by omega)))]
    rcases dg_cases (T := T) hL (show q + 2 < 1000 by omega) with ⟨a, ha, ea, la, ta⟩ | ⟨ea, la⟩
    · have i2 := yes_b ta ha (show 9 ≤ 9 by omega)
      have v2 : T (q + 1 + 1) - 48 = nI a := by rw [show q + 1 + 1 = q + 2 from rfl, ta, fig_v]
      rw [ea, if_neg (show ¬ ¬ 0 ≤ nI a from fun z => z (nI_pos' (by omega)))]
      rcases dg_cases (T := T) hL (show q + 3 < 1000 by omega) with ⟨k, hk, ek, lk, tk⟩ | ⟨ek, lk⟩
      · rw [ek, if_neg (nI_pos (n := k) (by omega))]
        have v3 : T (q + 1 + 1 + 1) - 48 = nI k := by rw [show q + 1 + 1 + 1 = q + 3 from rfl, tk, fig_v]
        by_cases hk3 : k ≤ 3
        · rw [if_neg (show ¬ ¬ nI k ≤ 3 from fun z => z (nI_le (a := k) (b := 3) hk3 (by omega)))]
          refine ⟨true, _, _, q + 4, r + 1, fin0 (rP_ok (mo := 9) t1 r1 hL hr (by omega) rfl ls i1 v1 hs hd (rP_ok (mo := 9) t1 r1 hL hr (by omega) rfl la i2 v2 ha hd (rP_ok (mo := 3) t1 r1 hL hr (by omega) rfl lk (yes_b tk hk3 (by omega)) v3 hk hd (rP_end hr rfl)))), fun _ => ⟨rfl, rd_add hd9 hr hs ha hk3, rfl, by omega⟩, fun z => absurd z (by decide)⟩
        · rw [if_pos (show ¬ nI k ≤ 3 from fun z => hk3 ((nI_leI (a := k) (b := 3) (by omega) (by omega)).mp z))]
          refine ⟨false, _, _, q + 3, r, fin0 (rP_ok (mo := 9) t1 r1 hL hr (by omega) rfl ls i1 v1 hs hd (rP_ok (mo := 9) t1 r1 hL hr (by omega) rfl la i2 v2 ha hd (rP_no (mo := 3) t1 r1 hL (by omega) rfl (by omega) (Or.inr (no3 tk hk (by omega))) hd rfl))), fun z => absurd z (by decide), fun _ => ⟨rfl, by omega⟩⟩
      · rw [ek, if_pos (show (-1 : Int32) < 0 by decide)]
        have hno : L ≤ q + 1 + 1 + 1 ∨ inI (T (q + 1 + 1 + 1) - 48) 0 (nI 3) = false := by
          rcases lk with z | z
          · exact Or.inl z
          · refine Or.inr ?_
            cases h3 : inI (T (q + 1 + 1 + 1) - 48) 0 (nI 3) with
            | false => rfl
            | true =>
              obtain ⟨w, hw, ew⟩ := fig_in (by omega) h3
              rw [show (9 : Int32) = nI 9 from rfl, yes_b ew (show w ≤ 9 by omega) (by omega)] at z
              exact absurd z (by decide)
        refine ⟨false, _, _, q + 3, r, fin0 (rP_ok (mo := 9) t1 r1 hL hr (by omega) rfl ls i1 v1 hs hd (rP_ok (mo := 9) t1 r1 hL hr (by omega) rfl la i2 v2 ha hd (rP_no (mo := 3) t1 r1 hL (by omega) rfl (by omega) hno hd rfl))), fun z => absurd z (by decide), fun _ => ⟨rfl, by omega⟩⟩
    · rw [ea, if_pos (show ¬ (0 : Int32) ≤ -1 by decide)]
      exact ⟨false, _, _, q + 2, r, fin0 (rP_ok (mo := 9) t1 r1 hL hr (by omega) rfl ls i1 v1 hs hd (rP_no (mo := 9) t1 r1 hL (by omega) rfl (by omega) la hd rfl)), fun z => absurd z (by decide), fun _ => ⟨rfl, by omega⟩⟩
  · rw [es, if_pos (show ¬ (0 : Int32) ≤ -1 by decide)]
    exact ⟨false, _, _, q + 1, r, fin0 (rP_no (mo := 9) t1 r1 hL (by omega) rfl (by omega) ls hd rfl), fun z => absurd z (by decide), fun _ => ⟨rfl, by omega⟩⟩
def kv (T : Nat → Int32) (L pl : Nat) : Int32 := if pl < L then T pl - 48 else -9
theorem kv_dg {T : Nat → Int32} {L pl r : Nat} (hL : L ≤ 48) (hp : pl < 1000) (hr : r ≤ 5) : (hasI (nI r) (kv T L pl) = false ∧ hasI (nI r) (dgI T (nI L) (nI pl)) = false ∧ (dgI T (nI L) (nI pl) = -1 ∨ ∃ w, r ≤ w ∧ w ≤ 9 ∧ dgI T (nI L) (nI pl) = nI w)) ∨ (∃ i, i < r ∧ pl < L ∧ kv T L pl = nI i ∧ dgI T (nI L) (nI pl) = nI i) := by
  rcases dg_cases (T := T) hL hp with ⟨w, hw, e, l, t⟩ | ⟨e, l⟩
  · have ek : kv T L pl = nI w := by
      unfold kv
      rw [if_pos l, t, fig_v]
    rcases Nat.lt_or_ge w r with q | q
    · exact Or.inr ⟨w, q, l, ek, e⟩
    · have hf : hasI (nI r) (nI w) = false := by
        unfold hasI
        rw [decide_eq_true (nI_le q (by omega))]
        simp
      exact Or.inl ⟨by rw [ek]; exact hf, by rw [e]; exact hf, Or.inr ⟨w, q, hw, e⟩⟩
  · refine Or.inl ⟨?_, by rw [e]; rfl, Or.inl e⟩
    cases hh : hasI (nI r) (kv T L pl) with
    | false => rfl
    | true =>
      obtain ⟨i, hi, ei⟩ := has_of hr hh
      unfold kv at ei
      split at ei
      · rcases l with z | z
        · omega
        · rw [ei, show (9 : Int32) = nI 9 from rfl, in_nI (by omega) (by omega), decide_eq_true (by omega)] at z
          exact absurd z (by decide)
      · exact absurd (show nI i < 0 by rw [← ei]; decide) (nI_pos (by omega))
set_option maxRecDepth 20000 in
theorem rK_a {G : kx_G} {d N m L pl r : Nat} {h : kx_H} {o : MO} {T rp rk : Nat → Int32} {res : kx_R} (t1 : h (m + 1) = some (ka 48 T)) (r1 : mTs o = nI L) (hL : L ≤ 48) (hp9 : pl < 1000) (K : kx_Ok mX5_readKin d 0 0 G 0 0 29 [(0, .ref m), (1, .int (kv T L pl))] [] N (rH h m o rp rk (nI pl) (nI r)) res) : kx_Ok mX5_readKin d 0 0 G 0 0 0 [(0, .ref m)] [] N (rH h m o rp rk (nI pl) (nI r)) res := by
  refine ko_aload_n (i := 0) dX5_readKin_0 rfl rfl ?_
  refine ko_get fl_X5_57 dX5_readKin_1 rH_o rfl ?_
  refine ko_aload_n (i := 0) dX5_readKin_4 rfl rfl ?_
  refine ko_get fl_X5_54 dX5_readKin_5 rH_o rfl ?_
  refine ko_st (st' := [.int (nI L), .int (nI pl)]) (congrArg (fun z => [Value.int z, .int (nI pl)]) r1) ?_
  refine ko_icmp_ge (tgt := 26) dX5_readKin_8 (by decide) (fun c_8 => ?_) (fun c_8 => ?_)
  · have hpl : L ≤ pl := (nI_leI (by omega) (by omega)).mp (show nI L ≤ nI pl from c_8)
    refine ko_bipush (v := (-9)) dX5_readKin_26 (by decide) ?_
    refine ko_istore_n (i := 1) (lv' := [(0, _), (1, _)]) dX5_readKin_28 rfl (by decide) rfl rfl rfl ?_
    first
      | (rw [show kv T L pl = T pl - 48 from if_pos hpl] at K; exact K)
      | (rw [show kv T L pl = -9 from if_neg (by omega)] at K; exact K)
  · have hpl : pl < L := by
      rcases Nat.lt_or_ge pl L with q | q
      · exact q
      · exact absurd (show nI L ≤ nI pl from nI_le q (by omega)) c_8
    refine ko_aload_n (i := 0) dX5_readKin_11 rfl rfl ?_
    refine ko_get fl_X5_7 dX5_readKin_12 rH_o rfl ?_
    refine ko_aload_n (i := 0) dX5_readKin_15 rfl rfl ?_
    refine ko_get fl_X5_57 dX5_readKin_16 rH_o rfl ?_
    refine ko_iald dX5_readKin_19 ((rH_q (by omega) (by omega) (by omega)).trans t1) (vp_in_nI (show pl < 48 by omega) (by omega)) ?_
    rw [nI_clamp (by omega)]
    refine ko_bipush (v := 48) dX5_readKin_20 (by decide) ?_
    refine ko_isub dX5_readKin_22 ?_
    refine ko_goto (tgt := 28) dX5_readKin_23 (by decide) ?_
    refine ko_istore_n (i := 1) (lv' := [(0, _), (1, _)]) dX5_readKin_28 rfl (by decide) rfl rfl rfl ?_
    first
      | (rw [show kv T L pl = T pl - 48 from if_pos hpl] at K; exact K)
      | (rw [show kv T L pl = -9 from if_neg (by omega)] at K; exact K)
set_option maxRecDepth 20000 in
theorem rK_b {G : kx_G} {d N m L pl r : Nat} {h : kx_H} {o : MO} {T rp rk : Nat → Int32} {res : kx_R} {c1 : Int32} (t1 : h (m + 1) = some (ka 48 T)) (r1 : mTs o = nI L) (hL : L ≤ 48) (hp9 : pl < 1000) (K : kx_Ok mX5_readKin d 0 0 G 0 0 94 [(0, .ref m), (1, .int c1), (2, .int (kv T L pl))] [] N (rH h m o rp rk (nI pl) (nI r)) res) : kx_Ok mX5_readKin d 0 0 G 0 0 65 [(0, .ref m), (1, .int c1)] [] N (rH h m o rp rk (nI pl) (nI r)) res := by
  refine ko_aload_n (i := 0) dX5_readKin_65 rfl rfl ?_
  refine ko_get fl_X5_57 dX5_readKin_66 rH_o rfl ?_
  refine ko_aload_n (i := 0) dX5_readKin_69 rfl rfl ?_
  refine ko_get fl_X5_54 dX5_readKin_70 rH_o rfl ?_
  refine ko_st (st' := [.int (nI L), .int (nI pl)]) (congrArg (fun z => [Value.int z, .int (nI pl)]) r1) ?_
  refine ko_icmp_ge (tgt := 91) dX5_readKin_73 (by decide) (fun c_73 => ?_) (fun c_73 => ?_)
  · have hpl : L ≤ pl := (nI_leI (by omega) (by omega)).mp (show nI L ≤ nI pl from c_73)
    refine ko_bipush (v := (-9)) dX5_readKin_91 (by decide) ?_
    refine ko_istore_n (i := 2) (lv' := [(0, _), (1, _), (2, _)]) dX5_readKin_93 rfl (by decide) rfl rfl rfl ?_
    first
      | (rw [show kv T L pl = T pl - 48 from if_pos hpl] at K; exact K)
      | (rw [show kv T L pl = -9 from if_neg (by omega)] at K; exact K)
  · have hpl : pl < L := by
      rcases Nat.lt_or_ge pl L with q | q
      · exact q
      · exact absurd (show nI L ≤ nI pl from nI_le q (by omega)) c_73
    refine ko_aload_n (i := 0) dX5_readKin_76 rfl rfl ?_
    refine ko_get fl_X5_7 dX5_readKin_77 rH_o rfl ?_
    refine ko_aload_n (i := 0) dX5_readKin_80 rfl rfl ?_
    refine ko_get fl_X5_57 dX5_readKin_81 rH_o rfl ?_
    refine ko_iald dX5_readKin_84 ((rH_q (by omega) (by omega) (by omega)).trans t1) (vp_in_nI (show pl < 48 by omega) (by omega)) ?_
    rw [nI_clamp (by omega)]
    refine ko_bipush (v := 48) dX5_readKin_85 (by decide) ?_
    refine ko_isub dX5_readKin_87 ?_
    refine ko_goto (tgt := 93) dX5_readKin_88 (by decide) ?_
    refine ko_istore_n (i := 2) (lv' := [(0, _), (1, _), (2, _)]) dX5_readKin_93 rfl (by decide) rfl rfl rfl ?_
    first
      | (rw [show kv T L pl = T pl - 48 from if_pos hpl] at K; exact K)
      | (rw [show kv T L pl = -9 from if_neg (by omega)] at K; exact K)
set_option maxRecDepth 20000 in
theorem rK_n1 {G : kx_G} {d N m pl r : Nat} {h : kx_H} {o : MO} {rp rk : Nat → Int32} {v : PU} {res : kx_R} {iv : Int32} (hd9 : rdR rp rk r v) (hno : hasI (nI r) iv = false ∨ ∃ i, i < r ∧ iv = nI i ∧ lsI v (nI i) = 0) (hd : 2 ≤ d) (he : res = (some (.int 0), N, (rH h m o rp rk (nI pl) (nI r)))) : kx_Ok mX5_readKin d 0 0 G 0 0 29 [(0, .ref m), (1, .int iv)] [] N (rH h m o rp rk (nI pl) (nI r)) res := by
  refine ko_iload_n (i := 1) dX5_readKin_29 rfl rfl ?_
  refine ko_i2l dX5_readKin_30 ?_
  refine ko_lconst (v := 0) dX5_readKin_31 (by decide) ?_
  refine ko_aload_n (i := 0) dX5_readKin_32 rfl rfl ?_
  refine ko_get fl_X5_60 dX5_readKin_33 rH_o rfl ?_
  refine ko_iconst (v := 1) dX5_readKin_36 (by decide) ?_
  refine ko_isub dX5_readKin_37 ?_
  refine ko_i2l dX5_readKin_38 ?_
  refine ko_callSr lk_X5_48 dX5_readKin_39 (fn_in (d := d - 1) (v := iv) (a := 0) (b := nI r - 1)) rfl rfl (by omega) (by omega) (by omega) (Nat.le_of_ble_eq_true rfl) ?_
  rw [in_has r iv hd9.1.2.1]
  first | refine ko_ifb_eq (tgt := 53) dX5_readKin_42 (by decide) (fun c_42 => ?_) (fun c_42 => ?_) | refine ko_if_eq (tgt := 53) dX5_readKin_42 (by decide) (fun c_42 => ?_) (fun c_42 => ?_)
  · refine ko_iconst (v := 0) dX5_readKin_53 (by decide) ?_
    refine ko_zret dX5_readKin_54 rfl rfl (Nat.le_of_ble_eq_true rfl) (Nat.le_of_ble_eq_true rfl) ?_
    exact he
  · obtain ⟨i, hi, rfl, hls⟩ : ∃ i, i < r ∧ iv = nI i ∧ lsI v (nI i) = 0 := by
      rcases hno with z | z
      · exact absurd (z.symm.trans c_42) (by decide)
      · exact z
    refine ko_aload_n (i := 0) dX5_readKin_45 rfl rfl ?_
    refine ko_iload_n (i := 1) dX5_readKin_46 rfl rfl ?_
    refine ko_callVr lk_X5_67 dX5_readKin_47 (fn_pairsOf (d := d - 1) hd9 hi (by omega)) rfl rfl rH_o rfl rfl (by omega) (by omega) (by omega) (Nat.le_of_ble_eq_true rfl) ?_
    refine ko_if_ne (tgt := 55) dX5_readKin_50 (by decide) (fun c_50 => ?_) (fun c_50 => ?_)
    · exact absurd hls c_50
    · refine ko_iconst (v := 0) dX5_readKin_53 (by decide) ?_
      refine ko_zret dX5_readKin_54 rfl rfl (Nat.le_of_ble_eq_true rfl) (Nat.le_of_ble_eq_true rfl) ?_
      exact he
set_option maxRecDepth 20000 in
theorem rK_g1 {G : kx_G} {d N m pl r : Nat} {h : kx_H} {o : MO} {rp rk : Nat → Int32} {v : PU} {res : kx_R} {i : Nat} (hd9 : rdR rp rk r v) (hi : i < r) (hls : ¬ lsI v (nI i) = 0) (hd : 2 ≤ d) (K : kx_Ok mX5_readKin d 0 0 G 0 0 65 [(0, .ref m), (1, .int (nI i))] [] N (rH h m o rp rk (nI (pl + 1)) (nI r)) res) : kx_Ok mX5_readKin d 0 0 G 0 0 29 [(0, .ref m), (1, .int (nI i))] [] N (rH h m o rp rk (nI pl) (nI r)) res := by
  refine ko_iload_n (i := 1) dX5_readKin_29 rfl rfl ?_
  refine ko_i2l dX5_readKin_30 ?_
  refine ko_lconst (v := 0) dX5_readKin_31 (by decide) ?_
  refine ko_aload_n (i := 0) dX5_readKin_32 rfl rfl ?_
  refine ko_get fl_X5_60 dX5_readKin_33 rH_o rfl ?_
  refine ko_iconst (v := 1) dX5_readKin_36 (by decide) ?_
  refine ko_isub dX5_readKin_37 ?_
  refine ko_i2l dX5_readKin_38 ?_
  refine ko_callSr lk_X5_48 dX5_readKin_39 (fn_in (d := d - 1) (v := nI i) (a := 0) (b := nI r - 1)) rfl rfl (by omega) (by omega) (by omega) (Nat.le_of_ble_eq_true rfl) ?_
  rw [in_has r (nI i) hd9.1.2.1]
  first | refine ko_ifb_eq (tgt := 53) dX5_readKin_42 (by decide) (fun c_42 => ?_) (fun c_42 => ?_) | refine ko_if_eq (tgt := 53) dX5_readKin_42 (by decide) (fun c_42 => ?_) (fun c_42 => ?_)
  · exact absurd c_42 (by rw [hasT hd9.1.2.1 hi]; decide)
  · refine ko_aload_n (i := 0) dX5_readKin_45 rfl rfl ?_
    refine ko_iload_n (i := 1) dX5_readKin_46 rfl rfl ?_
    refine ko_callVr lk_X5_67 dX5_readKin_47 (fn_pairsOf (d := d - 1) hd9 hi (by omega)) rfl rfl rH_o rfl rfl (by omega) (by omega) (by omega) (Nat.le_of_ble_eq_true rfl) ?_
    refine ko_if_ne (tgt := 55) dX5_readKin_50 (by decide) (fun c_50 => ?_) (fun c_50 => ?_)
    · refine ko_aload_n (i := 0) dX5_readKin_55 rfl rfl ?_
      refine ko_dup dX5_readKin_56 rfl ?_
      refine ko_get fl_X5_57 dX5_readKin_57 rH_o rfl ?_
      refine ko_iconst (v := 1) dX5_readKin_60 (by decide) ?_
      refine ko_iadd dX5_readKin_61 ?_
      rw [nI_1]
      refine ko_put fl_X5_57 dX5_readKin_62 rH_o rfl rfl (Nat.le_of_ble_eq_true rfl) ?_
      refine ko_h (rH_m _ _) ?_
      exact K
    · exact absurd c_50 hls
set_option maxRecDepth 20000 in
theorem rK_n2 {G : kx_G} {d N m pl r : Nat} {h : kx_H} {o : MO} {rp rk : Nat → Int32} {v : PU} {res : kx_R} {i : Nat} {jv : Int32} (hd9 : rdR rp rk r v) (hi : i < r) (hno : hasI (nI r) jv = false ∨ ∃ j, j < r ∧ jv = nI j ∧ hbI (lsI v (nI i)) (nI j) = false) (hd : 2 ≤ d) (he : res = (some (.int 0), N, (rH h m o rp rk (nI pl) (nI r)))) : kx_Ok mX5_readKin d 0 0 G 0 0 94 [(0, .ref m), (1, .int (nI i)), (2, .int jv)] [] N (rH h m o rp rk (nI pl) (nI r)) res := by
  refine ko_iload_n (i := 2) dX5_readKin_94 rfl rfl ?_
  refine ko_i2l dX5_readKin_95 ?_
  refine ko_lconst (v := 0) dX5_readKin_96 (by decide) ?_
  refine ko_aload_n (i := 0) dX5_readKin_97 rfl rfl ?_
  refine ko_get fl_X5_60 dX5_readKin_98 rH_o rfl ?_
  refine ko_iconst (v := 1) dX5_readKin_101 (by decide) ?_
  refine ko_isub dX5_readKin_102 ?_
  refine ko_i2l dX5_readKin_103 ?_
  refine ko_callSr lk_X5_48 dX5_readKin_104 (fn_in (d := d - 1) (v := jv) (a := 0) (b := nI r - 1)) rfl rfl (by omega) (by omega) (by omega) (Nat.le_of_ble_eq_true rfl) ?_
  rw [in_has r jv hd9.1.2.1]
  first | refine ko_ifb_eq (tgt := 122) dX5_readKin_107 (by decide) (fun c_107 => ?_) (fun c_107 => ?_) | refine ko_if_eq (tgt := 122) dX5_readKin_107 (by decide) (fun c_107 => ?_) (fun c_107 => ?_)
  · refine ko_iconst (v := 0) dX5_readKin_122 (by decide) ?_
    refine ko_zret dX5_readKin_123 rfl rfl (Nat.le_of_ble_eq_true rfl) (Nat.le_of_ble_eq_true rfl) ?_
    exact he
  · obtain ⟨j, hj, rfl, hls⟩ : ∃ j, j < r ∧ jv = nI j ∧ hbI (lsI v (nI i)) (nI j) = false := by
      rcases hno with z | z
      · exact absurd (z.symm.trans c_107) (by decide)
      · exact z
    refine ko_aload_n (i := 0) dX5_readKin_110 rfl rfl ?_
    refine ko_iload_n (i := 1) dX5_readKin_111 rfl rfl ?_
    refine ko_callVr lk_X5_67 dX5_readKin_112 (fn_pairsOf (d := d - 1) hd9 hi (by omega)) rfl rfl rH_o rfl rfl (by omega) (by omega) (by omega) (Nat.le_of_ble_eq_true rfl) ?_
    refine ko_iload_n (i := 2) dX5_readKin_115 rfl rfl ?_
    refine ko_callSr lk_X5_63 dX5_readKin_116 (fn_mhas (by have := hd9.1.2.1; omega)) rfl rfl (by omega) (by omega) (by omega) (Nat.le_of_ble_eq_true rfl) ?_
    first | refine ko_ifb_ne (tgt := 124) dX5_readKin_119 (by decide) (fun c_119 => ?_) (fun c_119 => ?_) | refine ko_if_ne (tgt := 124) dX5_readKin_119 (by decide) (fun c_119 => ?_) (fun c_119 => ?_)
    · exact absurd (hls.symm.trans c_119) (by decide)
    · refine ko_iconst (v := 0) dX5_readKin_122 (by decide) ?_
      refine ko_zret dX5_readKin_123 rfl rfl (Nat.le_of_ble_eq_true rfl) (Nat.le_of_ble_eq_true rfl) ?_
      exact he
set_option maxRecDepth 20000 in
theorem rK_g2 {G : kx_G} {d N m pl r : Nat} {h : kx_H} {o : MO} {rp rk : Nat → Int32} {v : PU} {res : kx_R} {i j : Nat} (hd9 : rdR rp rk r v) (hi : i < r) (hj : j < r) (hls : hbI (lsI v (nI i)) (nI j) = true) (hd : 2 ≤ d) (he : res = (some (.int 1), N, (rH h m o rp (upd (upd rk i (rk i ||| 1 <<< (nI j &&& 31))) j (upd rk i (rk i ||| 1 <<< (nI j &&& 31)) j ||| 1 <<< (nI i &&& 31))) (nI (pl + 1)) (nI r)))) : kx_Ok mX5_readKin d 0 0 G 0 0 94 [(0, .ref m), (1, .int (nI i)), (2, .int (nI j))] [] N (rH h m o rp rk (nI pl) (nI r)) res := by
  have hr5 := hd9.1.2.1
  refine ko_iload_n (i := 2) dX5_readKin_94 rfl rfl ?_
  refine ko_i2l dX5_readKin_95 ?_
  refine ko_lconst (v := 0) dX5_readKin_96 (by decide) ?_
  refine ko_aload_n (i := 0) dX5_readKin_97 rfl rfl ?_
  refine ko_get fl_X5_60 dX5_readKin_98 rH_o rfl ?_
  refine ko_iconst (v := 1) dX5_readKin_101 (by decide) ?_
  refine ko_isub dX5_readKin_102 ?_
  refine ko_i2l dX5_readKin_103 ?_
  refine ko_callSr lk_X5_48 dX5_readKin_104 (fn_in (d := d - 1) (v := nI j) (a := 0) (b := nI r - 1)) rfl rfl (by omega) (by omega) (by omega) (Nat.le_of_ble_eq_true rfl) ?_
  rw [in_has r (nI j) hd9.1.2.1]
  first | refine ko_ifb_eq (tgt := 122) dX5_readKin_107 (by decide) (fun c_107 => ?_) (fun c_107 => ?_) | refine ko_if_eq (tgt := 122) dX5_readKin_107 (by decide) (fun c_107 => ?_) (fun c_107 => ?_)
  · exact absurd c_107 (by rw [hasT hd9.1.2.1 hj]; decide)
  · refine ko_aload_n (i := 0) dX5_readKin_110 rfl rfl ?_
    refine ko_iload_n (i := 1) dX5_readKin_111 rfl rfl ?_
    refine ko_callVr lk_X5_67 dX5_readKin_112 (fn_pairsOf (d := d - 1) hd9 hi (by omega)) rfl rfl rH_o rfl rfl (by omega) (by omega) (by omega) (Nat.le_of_ble_eq_true rfl) ?_
    refine ko_iload_n (i := 2) dX5_readKin_115 rfl rfl ?_
    refine ko_callSr lk_X5_63 dX5_readKin_116 (fn_mhas (by have := hd9.1.2.1; omega)) rfl rfl (by omega) (by omega) (by omega) (Nat.le_of_ble_eq_true rfl) ?_
    first | refine ko_ifb_ne (tgt := 124) dX5_readKin_119 (by decide) (fun c_119 => ?_) (fun c_119 => ?_) | refine ko_if_ne (tgt := 124) dX5_readKin_119 (by decide) (fun c_119 => ?_) (fun c_119 => ?_)
    · refine ko_aload_n (i := 0) dX5_readKin_124 rfl rfl ?_
      refine ko_dup dX5_readKin_125 rfl ?_
      refine ko_get fl_X5_57 dX5_readKin_126 rH_o rfl ?_
      refine ko_iconst (v := 1) dX5_readKin_129 (by decide) ?_
      refine ko_iadd dX5_readKin_130 ?_
      rw [nI_1]
      refine ko_put fl_X5_57 dX5_readKin_131 rH_o rfl rfl (Nat.le_of_ble_eq_true rfl) ?_
      refine ko_h (rH_m _ _) ?_
      refine ko_aload_n (i := 0) dX5_readKin_134 rfl rfl ?_
      refine ko_get fl_X5_19 dX5_readKin_135 rH_o rfl ?_
      refine ko_iload_n (i := 1) dX5_readKin_138 rfl rfl ?_
      refine ko_dup2 dX5_readKin_139 rfl rfl ?_
      refine ko_iald dX5_readKin_140 rH_k (vp_in_nI (by have := hd9.1.2.1; omega) (by omega)) ?_
      rw [nI_clamp (by omega)]
      refine ko_iconst (v := 1) dX5_readKin_141 (by decide) ?_
      refine ko_iload_n (i := 2) dX5_readKin_142 rfl rfl ?_
      refine ko_ishl dX5_readKin_143 ?_
      refine ko_ior dX5_readKin_144 ?_
      refine ko_iast dX5_readKin_145 rH_k (vp_in_nI (by have := hd9.1.2.1; omega) (by omega)) ?_
      rw [nI_clamp (by omega)]
      refine ko_h (rH_rk _) ?_
      refine ko_aload_n (i := 0) dX5_readKin_146 rfl rfl ?_
      refine ko_get fl_X5_19 dX5_readKin_147 rH_o rfl ?_
      refine ko_iload_n (i := 2) dX5_readKin_150 rfl rfl ?_
      refine ko_dup2 dX5_readKin_151 rfl rfl ?_
      refine ko_iald dX5_readKin_152 rH_k (vp_in_nI (by have := hd9.1.2.1; omega) (by omega)) ?_
      rw [nI_clamp (by omega)]
      refine ko_iconst (v := 1) dX5_readKin_153 (by decide) ?_
      refine ko_iload_n (i := 1) dX5_readKin_154 rfl rfl ?_
      refine ko_ishl dX5_readKin_155 ?_
      refine ko_ior dX5_readKin_156 ?_
      refine ko_iast dX5_readKin_157 rH_k (vp_in_nI (by have := hd9.1.2.1; omega) (by omega)) ?_
      rw [nI_clamp (by omega)]
      refine ko_h (rH_rk _) ?_
      refine ko_iconst (v := 1) dX5_readKin_158 (by decide) ?_
      refine ko_zret dX5_readKin_159 rfl rfl (Nat.le_of_ble_eq_true rfl) (Nat.le_of_ble_eq_true rfl) ?_
      exact he
    · exact absurd (hls.symm.trans c_119) (by decide)
theorem rk_1 {T : Nat → Int32} {n : Int32} {v : PU} {q : Nat} (h1 : ltI T n (nI q) = 75) (h2 : iplB v = true) : rkR T n v (nI q) = if lsI v (dgI T n (nI (q + 1))) = 0 then (nI (q + 1), v) else if hbI (lsI v (dgI T n (nI (q + 1)))) (dgI T n (nI (q + 2))) = false then (nI (q + 2), v) else (-9, mkU v (dgI T n (nI (q + 1))) (dgI T n (nI (q + 2)))) := by
  unfold rkR
  rw [h1, h2, if_neg (show ¬ ¬ (75 : Int32) = 75 from fun z => z rfl), if_neg (show ¬ true = false by decide), show nI q + 1 = nI (q + 1) from nI_add q 1, show nI q + 2 = nI (q + 2) from nI_add q 2]
theorem ls_has {v : PU} {x : Int32} (h : hasI (pN v) x = false) : lsI v x = 0 := by
  unfold lsI
  rw [h, if_neg (by decide)]
theorem fn_mreadKin {G : kx_G} {d N m L q r : Nat} {h : kx_H} {o : MO} {T rp rk : Nat → Int32} {v : PU} (t1 : h (m + 1) = some (ka 48 T)) (r1 : mTs o = nI L) (hL : L ≤ 48) (hd9 : rdR rp rk r v) (h75 : ltI T (nI L) (nI q) = 75) (hip : iplB v = true) (hq : q + 1 ≤ L) (hd : 2 ≤ d) : ∃ (b : Bool) (rp' rk' : Nat → Int32) (pl' r' : Nat), kx_Fn mX5_readKin d 0 0 G [.ref m] N (rH h m o rp rk (nI (q + 1)) (nI r)) (some (.int (kb b)), N, (rH h m o rp' rk' (nI pl') (nI r'))) ∧ (b = true → (rkR T (nI L) v (nI q)).1 = -9 ∧ rdR rp' rk' r' (rkR T (nI L) v (nI q)).2 ∧ pl' = q + 3 ∧ pl' ≤ L) ∧ (b = false → (rkR T (nI L) v (nI q)).1 = nI pl' ∧ pl' < 1000) := by
  have hr5 := hd9.1.2.1
  rw [rk_1 h75 hip]
  have fin0 : ∀ {rp' rk' : Nat → Int32} {pl' r' : Int32} {b : Bool}, kx_Ok mX5_readKin d 0 0 G 0 0 29 [(0, .ref m), (1, .int (kv T L (q + 1)))] [] N (rH h m o rp rk (nI (q + 1)) (nI r)) (some (.int (kb b)), N, (rH h m o rp' rk' pl' r')) → kx_Fn mX5_readKin d 0 0 G [.ref m] N (rH h m o rp rk (nI (q + 1)) (nI r)) (some (.int (kb b)), N, (rH h m o rp' rk' pl' r')) := fun K => kx_Fn_of rfl (Nat.le_of_ble_eq_true rfl) rfl (rK_a t1 r1 hL (by omega) K) rH_dom
  rcases kv_dg (T := T) (r := r) hL (show q + 1 < 1000 by omega) hr5 with ⟨a1, a2, -⟩ | ⟨i, hi, l1, a1, a2⟩
  · rw [if_pos (ls_has (by rw [hd9.1.1]; exact a2))]
    exact ⟨false, _, _, q + 1, r, fin0 (rK_n1 hd9 (Or.inl a1) hd rfl), fun z => absurd z (by decide), fun _ => ⟨rfl, by omega⟩⟩
  · rw [a2]
    by_cases hls : lsI v (nI i) = 0
    · rw [if_pos hls]
      exact ⟨false, _, _, q + 1, r, fin0 (rK_n1 hd9 (Or.inr ⟨i, hi, a1, hls⟩) hd rfl), fun z => absurd z (by decide), fun _ => ⟨rfl, by omega⟩⟩
    · rw [if_neg hls]
      have go : ∀ {rp' rk' : Nat → Int32} {pl' r' : Int32} {b : Bool}, kx_Ok mX5_readKin d 0 0 G 0 0 94 [(0, .ref m), (1, .int (nI i)), (2, .int (kv T L (q + 1 + 1)))] [] N (rH h m o rp rk (nI (q + 1 + 1)) (nI r)) (some (.int (kb b)), N, (rH h m o rp' rk' pl' r')) → kx_Ok mX5_readKin d 0 0 G 0 0 29 [(0, .ref m), (1, .int (kv T L (q + 1)))] [] N (rH h m o rp rk (nI (q + 1)) (nI r)) (some (.int (kb b)), N, (rH h m o rp' rk' pl' r')) := fun K => by
        rw [a1]
        exact rK_g1 hd9 hi hls hd (rK_b t1 r1 hL (by omega) K)
      rcases kv_dg (T := T) (r := r) hL (show q + 1 + 1 < 1000 by omega) hr5 with ⟨b1, b2, b3⟩ | ⟨j, hj, l2, b1, b2⟩
      · have hf : hbI (lsI v (nI i)) (dgI T (nI L) (nI (q + 2))) = false := by
          rcases b3 with z | ⟨w, hw1, hw2, z⟩
          · rw [show q + 2 = q + 1 + 1 from rfl, z]; rfl
          · rw [show q + 2 = q + 1 + 1 from rfl, z]
            rcases Nat.lt_or_ge w 5 with y | y
            · rw [ls_st hd9.1 hi, st_bit _ r hr5 w y, decide_eq_false (by omega)]
              rfl
            · unfold hbI
              rw [decide_eq_true (show (5 : Int32) ≤ nI w from nI_le (a := 5) (b := w) y (by omega))]
              simp
        rw [if_pos hf]
        exact ⟨false, _, _, q + 2, r, fin0 (go (rK_n2 hd9 hi (Or.inl b1) hd rfl)), fun z => absurd z (by decide), fun _ => ⟨rfl, by omega⟩⟩
      · rw [show q + 2 = q + 1 + 1 from rfl, b2]
        cases hb : hbI (lsI v (nI i)) (nI j) with
        | false =>
          rw [if_pos rfl]
          exact ⟨false, _, _, q + 2, r, fin0 (go (rK_n2 hd9 hi (Or.inr ⟨j, hj, b1, hb⟩) hd rfl)), fun z => absurd z (by decide), fun _ => ⟨rfl, by omega⟩⟩
        | true =>
          rw [if_neg (by decide)]
          exact ⟨true, _, _, q + 3, r, fin0 (go (by rw [b1]; exact rK_g2 hd9 hi hj hb hd rfl)), fun _ => ⟨rfl, rd_kin hd9 hi hj, rfl, by omega⟩, fun z => absurd z (by decide)⟩
