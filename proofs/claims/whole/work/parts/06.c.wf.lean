/-! ===== what stays within its bounds ===== -/
def setN (k j : Nat) : Nat := if k / 2 ^ j % 2 = 1 then k else k + 2 ^ j
def clrN (k j : Nat) : Nat := if k / 2 ^ j % 2 = 1 then k - 2 ^ j else k
theorem set_eq : ∀ j, j < 5 → ∀ k, k < 32 → nI k ||| 1 <<< (nI j &&& 31) = nI (setN k j) := by decide +kernel
theorem clr_eq : ∀ j, j < 5 → ∀ k, k < 32 → nI k &&& (1 <<< (nI j &&& 31) ^^^ (-1)) = nI (clrN k j) := by decide +kernel
theorem set_lt : ∀ n, n < 6 → ∀ j, j < n → ∀ k, k < 2 ^ n → setN k j < 2 ^ n := by decide +kernel
theorem clr_le (k j : Nat) : clrN k j ≤ k := by
  unfold clrN
  split
  · exact Nat.sub_le _ _
  · exact Nat.le_refl _
theorem lt32 {k n : Nat} (hk : k < 2 ^ n) (hn : n ≤ 5) : k < 32 := Nat.lt_of_lt_of_le hk (Nat.pow_le_pow_right (n := 2) (by omega) hn)
theorem WF_br {u : PU} {n i : Nat} (hw : WF u n) (hi : i < n) : WF (brU u (nI i)) n := by
  obtain ⟨w1, w2, w3, w4, w5, w6, ⟨o, ho, eo⟩, w8, w9⟩ := id hw
  have ci : (nI i).toNatClampNeg = i := nI_clamp (by omega)
  unfold brU
  rw [if_pos (hasW hw hi)]
  split
  · exact hw
  · rw [ci]
    refine ⟨w1, w2, fun j hj => ?_, fun j hj => ?_, w5, w6, ⟨setN o i, set_lt n (by omega) i hi o ho, ?_⟩, w8, fun j hj hj5 => ?_⟩
    · show ∃ s, s ≤ 9 ∧ upd (pSo u) i 9 j = nI s
      by_cases h1 : j = i
      · subst h1; exact ⟨9, Nat.le_refl _, by rw [pk_us]; rfl⟩
      · rw [pk_un h1]; exact w3 j hj
    · show ∃ s, s ≤ 99 ∧ upd (pAg u) i 0 j = nI s
      by_cases h1 : j = i
      · subst h1; exact ⟨0, by omega, by rw [pk_us]; rfl⟩
      · rw [pk_un h1]; exact w4 j hj
    · show pOp u ||| 1 <<< (nI i &&& 31) = _
      rw [eo]; exact set_eq i (by omega) o (lt32 ho w2)
    · show upd (pSo u) i 9 j = 0
      rw [pk_un (by omega)]; exact w9 j hj hj5
theorem WF_st {u : PU} {n i j : Nat} (hw : WF u n) (hi : i < n) (hj : j < n) : WF (stU u (nI i) (nI j)) n := by
  obtain ⟨w1, w2, w3, w4, w5, w6, ⟨o, ho, eo⟩, w8, w9⟩ := id hw
  have ci : (nI i).toNatClampNeg = i := nI_clamp (by omega)
  have cj : (nI j).toNatClampNeg = j := nI_clamp (by omega)
  have em : mkU u (nI i) (nI j) = (u.1, u.2.1, u.2.2.1, upd (upd (pKn u) i (pKn u i ||| 1 <<< (nI j &&& 31))) j ((upd (pKn u) i (pKn u i ||| 1 <<< (nI j &&& 31))) j ||| 1 <<< (nI i &&& 31)), u.2.2.2.2) := by
    unfold mkU
    rw [if_pos (hasW hw hi), if_pos (hasW hw hj), ci, cj]
  unfold stU
  rw [if_pos (hasW hw hi), if_pos (hasW hw hj), em]
  have inner : ∀ k, k < 5 → ∃ z, z < 2 ^ n ∧ upd (pKn u) i (pKn u i ||| 1 <<< (nI j &&& 31)) k = nI z := fun k hk => by
    by_cases h1 : k = i
    · subst h1
      obtain ⟨z, hz, ez⟩ := w6 k hk
      exact ⟨setN z j, set_lt n (by omega) j hj z hz, by rw [pk_us, ez]; exact set_eq j (by omega) z (lt32 hz w2)⟩
    · rw [pk_un h1]; exact w6 k hk
  refine ⟨w1, w2, w3, w4, w5, fun k hk => ?_, ⟨clrN o j, Nat.lt_of_le_of_lt (clr_le o j) ho, ?_⟩, w8, w9⟩
  · show ∃ z, z < 2 ^ n ∧ upd (upd (pKn u) i (pKn u i ||| 1 <<< (nI j &&& 31))) j ((upd (pKn u) i (pKn u i ||| 1 <<< (nI j &&& 31))) j ||| 1 <<< (nI i &&& 31)) k = nI z
    by_cases h1 : k = j
    · subst h1
      obtain ⟨z, hz, ez⟩ := inner k hk
      exact ⟨setN z i, set_lt n (by omega) i hi z hz, by rw [pk_us, ez]; exact set_eq i (by omega) z (lt32 hz w2)⟩
    · rw [pk_un h1]; exact inner k hk
  · show pOp u &&& (1 <<< (nI j &&& 31) ^^^ (-1)) = _
    rw [eo]; exact clr_eq j (by omega) o (lt32 ho w2)
theorem oz_sub : ∀ s, s < 10 → ∀ q, q < 5 → nI s - (if q = 0 then 0 else nI s / nI q) = nI (s - (if q = 0 then 0 else s / q)) := by decide +kernel
theorem oz_cases {u : PU} {n i : Nat} (hw : WF u n) (hi : i < n) : ∃ q, q < 5 ∧ ozI u (nI i) = if q = 0 then 0 else pSo u i / nI q := by
  have ci : (nI i).toNatClampNeg = i := nI_clamp (by have := hw.2.1; omega)
  unfold ozI
  rw [if_neg (by rw [hasW hw hi]; decide), ci]
  split
  · exact ⟨0, by omega, rfl⟩
  · split
    · exact ⟨2, by omega, rfl⟩
    · split
      · exact ⟨0, by omega, rfl⟩
      · split
        · exact ⟨4, by omega, rfl⟩
        · exact ⟨3, by omega, rfl⟩
theorem oz_val {u : PU} {n i : Nat} (hw : WF u n) (hi : i < n) : ∃ z, z ≤ 9 ∧ ozI u (nI i) = nI z := by
  obtain ⟨q, hq, e⟩ := oz_cases hw hi
  obtain ⟨s, hs, es⟩ := hw.2.2.1 i (by have := hw.2.1; omega)
  rw [e, es]
  by_cases h0 : q = 0
  · exact ⟨0, by omega, by rw [if_pos h0]; rfl⟩
  · rw [if_neg h0]
    exact ⟨s / q, Nat.le_trans (Nat.div_le_self s q) hs, pk_div (by omega) (by omega) (by omega)⟩
theorem WF_so {u : PU} {n i : Nat} (hw : WF u n) (hi : i < n) : WF (upd (pSo u) i (pSo u i - ozI u (nI i)), u.2) n := by
  obtain ⟨w1, w2, w3, w4, w5, w6, w7, w8, w9⟩ := id hw
  refine ⟨w1, w2, fun j hj => ?_, w4, w5, w6, w7, w8, fun j hj hj5 => ?_⟩
  · show ∃ s, s ≤ 9 ∧ upd (pSo u) i (pSo u i - ozI u (nI i)) j = nI s
    by_cases h1 : j = i
    · subst h1
      obtain ⟨q, hq, e⟩ := oz_cases hw hi
      obtain ⟨s, hs, es⟩ := w3 j hj
      rw [pk_us, e, es, oz_sub s (by omega) q hq]
      exact ⟨_, by omega, rfl⟩
    · rw [pk_un h1]; exact w3 j hj
  · show upd (pSo u) i _ j = 0
    rw [pk_un (by omega)]; exact w9 j hj hj5
theorem WF_wf {u : PU} {n i j : Nat} (hw : WF u n) (hi : i < n) (hj : j < n) : WF (wfU u (nI i) (nI j)) n := by
  have ci : (nI i).toNatClampNeg = i := nI_clamp (by have := hw.2.1; omega)
  unfold wfU
  rw [if_pos (hasW hw hi), ci]
  split
  · exact WF_st (WF_so hw hi) hi hj
  · exact hw
theorem WF_on {u : PU} {n i j : Nat} (hw : WF u n) (hi : i < n) (hj : j < n) : WF (onU u (nI i) (nI j)) n := by
  unfold onU
  split
  · refine WF_st ?_ hi hj
    obtain ⟨w1, w2, w3, w4, w5, w6, w7, ⟨o, ho, eo⟩, w9⟩ := id hw
    exact ⟨w1, w2, w3, w4, w5, w6, w7, ⟨setN o i, set_lt n (by omega) i hi o ho, by show pOn u ||| 1 <<< (nI i &&& 31) = _; rw [eo]; exact set_eq i (by omega) o (lt32 ho w2)⟩, w9⟩
  · exact hw
theorem wkA_v : ∀ a, a < 100 → wkA (nI a) = nI (if a + 1 < 99 then a + 1 else 99) := by decide +kernel
theorem wkS_v : ∀ a, a < 100 → ∀ s, s < 10 → wkS (nI a) (nI s) = nI (if a < 3 then s else s - 1) := by decide +kernel
theorem WF_wk {u : PU} {n i : Nat} (hw : WF u n) (hi : i < n) : WF (wkU u i) n := by
  obtain ⟨w1, w2, w3, w4, w5, w6, w7, w8, w9⟩ := id hw
  obtain ⟨a, ha, ea⟩ := w4 i (by omega)
  obtain ⟨s, hs, es⟩ := w3 i (by omega)
  have e1 := wkA_v a (by omega)
  have hb : (if a + 1 < 99 then a + 1 else 99) ≤ 99 := by split <;> omega
  refine ⟨w1, w2, fun j hj => ?_, fun j hj => ?_, w5, w6, w7, w8, fun j hj hj5 => ?_⟩
  · show ∃ s, s ≤ 9 ∧ upd (pSo u) i (wkS (wkA (pAg u i)) (pSo u i)) j = nI s
    by_cases h1 : j = i
    · subst h1
      rw [pk_us, ea, es, e1, wkS_v _ (by omega) s (by omega)]
      have e9 : ∀ (c : Prop) [Decidable c], (if c then s else s - 1) ≤ 9 := fun c _ => by
        split
        · exact hs
        · omega
      exact ⟨_, e9 _, rfl⟩
    · rw [pk_un h1]; exact w3 j hj
  · show ∃ s, s ≤ 99 ∧ upd (pAg u) i (wkA (pAg u i)) j = nI s
    by_cases h1 : j = i
    · subst h1
      rw [pk_us, ea, e1]
      exact ⟨_, hb, rfl⟩
    · rw [pk_un h1]; exact w4 j hj
  · show upd (pSo u) i _ j = 0
    rw [pk_un (by omega)]; exact w9 j hj hj5
theorem WF_wkN {u : PU} {n : Nat} (hw : WF u n) : ∀ i, i ≤ n → WF (wkN u i) n
  | 0, _ => hw
  | i + 1, h => WF_wk (WF_wkN hw i (by omega)) (by omega)
theorem WF_pw {u : PU} {n : Nat} (hw : WF u n) : WF (pwU u n) n := by
  obtain ⟨w1, w2, w3, w4, w5, w6, w7, w8, w9⟩ := WF_wkN hw n (Nat.le_refl n)
  exact ⟨w1, w2, w3, w4, w5, w6, w7, w8, w9⟩
theorem WF_Z : WF pZ 0 := ⟨rfl, by omega, fun j hj => ⟨0, by omega, rfl⟩, fun j hj => ⟨0, by omega, rfl⟩, fun j hj => ⟨0, by omega, rfl⟩, fun j hj => ⟨0, by omega, rfl⟩, ⟨0, by omega, rfl⟩, ⟨0, by omega, rfl⟩, fun j hj hj5 => rfl⟩
/-- the reference's week -/
def gwA (x : Int32) : Int32 := if 99 ≤ x then x + 0 else x + 1
def gwS (a s : Int32) : Int32 := if a < 3 then s - 0 else if s ≤ 0 then s - 0 else s - 1
def gwF (f : Nat → Int32) : Nat → Nat → Int32
  | 0 => f
  | i + 1 => upd (upd (gwF f i) (5 + i) (gwA (gwF f i (5 + i)))) i (gwS (gwA (gwF f i (5 + i))) (gwF f i i))
def gwG (f : Nat → Int32) (n : Nat) : Nat → Int32 := upd (gwF f n) 42 (gwF f n 42 + 1)
theorem gwA_v : ∀ a, a < 100 → gwA (nI a) = wkA (nI a) := by decide +kernel
theorem gwS_v : ∀ a, a < 100 → ∀ s, s < 10 → gwS (nI a) (nI s) = wkS (nI a) (nI s) := by decide +kernel
theorem gwF_R {f : Nat → Int32} {u : PU} {n : Nat} (hp : pgR f u) (hw : WF u n) : ∀ i, i ≤ n → pgR (gwF f i) (wkN u i)
  | 0, _ => hp
  | i + 1, h => by
    have hw1 := WF_wkN hw i (by omega)
    have hn5 := hw.2.1
    obtain ⟨p1, p2, p3, p4, p5, p6, p7⟩ := gwF_R hp hw i (by omega)
    obtain ⟨a, ha, ea⟩ := hw1.2.2.2.1 i (by omega)
    obtain ⟨s, hs, es⟩ := hw1.2.2.1 i (by omega)
    have e1 : gwA (gwF f i (5 + i)) = wkA (pAg (wkN u i) i) := by rw [p2 i (by omega), ea, gwA_v a (by omega)]
    have e2 : gwS (gwA (gwF f i (5 + i))) (gwF f i i) = wkS (wkA (pAg (wkN u i) i)) (pSo (wkN u i) i) := by
      rw [e1, p1 i (by omega), ea, es, wkA_v a (by omega)]
      refine gwS_v _ ?_ s (by omega)
      split <;> omega
    show pgR (upd (upd (gwF f i) (5 + i) (gwA (gwF f i (5 + i)))) i (gwS (gwA (gwF f i (5 + i))) (gwF f i i))) (wkU (wkN u i) i)
    rw [e2, e1]
    refine ⟨fun j hj => ?_, fun j hj => ?_, fun j hj => ?_, ?_, fun j hj => ?_, ?_, ?_⟩
    · show _ = upd (pSo (wkN u i)) i _ j
      by_cases h1 : j = i
      · subst h1; rw [pk_us, pk_us]
      · rw [pk_un h1, pk_un (by omega), pk_un h1]; exact p1 j hj
    · show _ = upd (pAg (wkN u i)) i _ j
      rw [pk_un (by omega)]
      by_cases h1 : j = i
      · subst h1; rw [pk_us, pk_us]
      · rw [pk_un (by omega), pk_un h1]; exact p2 j hj
    · rw [pk_un (by omega), pk_un (by omega)]; exact p3 j hj
    · rw [pk_un (by omega), pk_un (by omega)]; exact p4
    · rw [pk_un (by omega), pk_un (by omega)]; exact p5 j hj
    · rw [pk_un (by omega), pk_un (by omega)]; exact p6
    · rw [pk_un (by omega), pk_un (by omega)]; exact p7
theorem gwG_R {f : Nat → Int32} {u : PU} {n : Nat} (hp : pgR f u) (hw : WF u n) : pgR (gwG f n) (pwU u n) := by
  obtain ⟨p1, p2, p3, p4, p5, p6, p7⟩ := gwF_R hp hw n (Nat.le_refl n)
  unfold gwG
  refine ⟨fun j hj => ?_, fun j hj => ?_, fun j hj => ?_, ?_, fun j hj => ?_, ?_, ?_⟩
  · rw [pk_un (by omega)]; exact p1 j hj
  · rw [pk_un (by omega)]; exact p2 j hj
  · rw [pk_un (by omega)]; exact p3 j hj
  · rw [pk_un (by omega)]; exact p4
  · rw [pk_un (by omega)]; exact p5 j hj
  · rw [pk_un (by omega)]; exact p6
  · rw [pk_us, p7]; rfl
