/-! ===== bits of sets of people ===== -/
theorem hb_bit (x : Int32) : ∀ j, j < 5 → hbI x (nI j) = x.toBitVec.getLsbD j := by
  intro j hj
  rw [← hm_hb x j hj]
  unfold hmI
  have e : (x >>> (nI j &&& 31)) &&& 1 = nI ((x >>> (nI j &&& 31)).toBitVec.toNat % 2 ^ 1) := pk_and _ 1 rfl
  have e2 : (x >>> (nI j &&& 31)).toBitVec = x.toBitVec.sshiftRight j := by
    rw [Int32.toBitVec_shiftRight]
    have h5 : j = 0 ∨ j = 1 ∨ j = 2 ∨ j = 3 ∨ j = 4 := by omega
    rcases h5 with rfl | rfl | rfl | rfl | rfl <;> rfl
  have e3 : (x.toBitVec.sshiftRight j).getLsbD 0 = x.toBitVec.getLsbD j := by
    rw [BitVec.getLsbD_sshiftRight]
    simp
    intro h
    omega
  rw [e, e2, ← e3]
  show _ = Nat.testBit _ 0
  rw [Nat.testBit_zero]
  have h2 : (x.toBitVec.sshiftRight j).toNat % 2 = 0 ∨ (x.toBitVec.sshiftRight j).toNat % 2 = 1 := by omega
  rw [Nat.pow_one]
  rcases h2 with h2 | h2
  · rw [h2]; rfl
  · rw [h2]; rfl
theorem hb_or (x y : Int32) (j : Nat) (hj : j < 5) : hbI (x ||| y) (nI j) = (hbI x (nI j) || hbI y (nI j)) := by
  rw [hb_bit _ j hj, hb_bit _ j hj, hb_bit _ j hj, Int32.toBitVec_or, BitVec.getLsbD_or]
theorem hb_and (x y : Int32) (j : Nat) (hj : j < 5) : hbI (x &&& y) (nI j) = (hbI x (nI j) && hbI y (nI j)) := by
  rw [hb_bit _ j hj, hb_bit _ j hj, hb_bit _ j hj, Int32.toBitVec_and, BitVec.getLsbD_and]
theorem hb_m1 : ∀ j, j < 5 → hbI (-1) (nI j) = true := by decide +kernel
theorem hb_not (x : Int32) (j : Nat) (hj : j < 5) : hbI (x ^^^ (-1)) (nI j) = !hbI x (nI j) := by
  have e := hb_m1 j hj
  rw [hb_bit _ j hj] at e
  rw [hb_bit _ j hj, hb_bit _ j hj, Int32.toBitVec_xor, BitVec.getLsbD_xor, e]
  simp
theorem hb_one : ∀ i, i < 5 → ∀ j, j < 5 → hbI (1 <<< (nI i &&& 31)) (nI j) = decide (i = j) := by decide +kernel
theorem hb_zero : ∀ j, j < 5 → hbI 0 (nI j) = false := by decide +kernel
theorem hb_ext0 : ∀ a, a < 32 → ∀ b, b < 32 → (∀ j, j < 5 → hbI (nI a) (nI j) = hbI (nI b) (nI j)) → a = b := by decide +kernel
/-- a set of at most five -/
def lo (x : Int32) : Prop := ∃ k, k < 32 ∧ x = nI k
theorem hb_ext {x y : Int32} (hx : lo x) (hy : lo y) (h : ∀ j, j < 5 → hbI x (nI j) = hbI y (nI j)) : x = y := by
  obtain ⟨a, ha, rfl⟩ := hx
  obtain ⟨b, hb, rfl⟩ := hy
  rw [hb_ext0 a ha b hb h]
theorem lo_or0 : ∀ a, a < 32 → ∀ b, b < 32 → nI a ||| nI b = nI (a ||| b) ∧ a ||| b < 32 := by decide +kernel
theorem lo_or {x y : Int32} (hx : lo x) (hy : lo y) : lo (x ||| y) := by
  obtain ⟨a, ha, rfl⟩ := hx
  obtain ⟨b, hb, rfl⟩ := hy
  exact ⟨_, (lo_or0 a ha b hb).2, (lo_or0 a ha b hb).1⟩
theorem lo_and0 : ∀ a, a < 32 → ∀ b, b < 32 → nI a &&& nI b = nI (a &&& b) ∧ a &&& b < 32 := by decide +kernel
theorem lo_and {x y : Int32} (hx : lo x) (hy : lo y) : lo (x &&& y) := by
  obtain ⟨a, ha, rfl⟩ := hx
  obtain ⟨b, hb, rfl⟩ := hy
  exact ⟨_, (lo_and0 a ha b hb).2, (lo_and0 a ha b hb).1⟩
theorem lo_andn0 : ∀ a, a < 32 → ∀ b, b < 32 → nI a &&& (nI b ^^^ (-1)) = nI (a - (a &&& b)) := by decide +kernel
theorem lo_andn {x y : Int32} (hx : lo x) (hy : lo y) : lo (x &&& (y ^^^ (-1))) := by
  obtain ⟨a, ha, rfl⟩ := hx
  obtain ⟨b, hb, rfl⟩ := hy
  exact ⟨_, by omega, lo_andn0 a ha b hb⟩
theorem lo_one0 : ∀ i, i < 5 → (1 : Int32) <<< (nI i &&& 31) = nI (2 ^ i) ∧ 2 ^ i < 32 := by decide +kernel
theorem lo_one {i : Nat} (hi : i < 5) : lo (1 <<< (nI i &&& 31)) := ⟨_, (lo_one0 i hi).2, (lo_one0 i hi).1⟩
theorem lo_0 : lo 0 := ⟨0, by omega, rfl⟩
theorem lo_if {b : Bool} {x y : Int32} (hx : lo x) (hy : lo y) : lo (if b = true then x else y) := by
  cases b
  · exact hy
  · exact hx
theorem lo_ev0 : ∀ n, n < 6 → evI (nI n) = nI (2 ^ n - 1) ∧ 2 ^ n - 1 < 32 := by decide +kernel
theorem lo_ev {n : Nat} (hn : n ≤ 5) : lo (evI (nI n)) := ⟨_, (lo_ev0 n (by omega)).2, (lo_ev0 n (by omega)).1⟩
theorem hb_ev : ∀ n, n < 6 → ∀ j, j < 5 → hbI (evI (nI n)) (nI j) = decide (j < n) := by decide +kernel
/-- the set of those that have it, as loops lay it -/
def stI (b : Nat → Bool) : Nat → Int32
  | 0 => 0
  | i + 1 => stI b i ||| (if b i = true then 1 <<< (nI i &&& 31) else 0)
theorem st_lo (b : Nat → Bool) : ∀ i, i ≤ 5 → lo (stI b i)
  | 0, _ => lo_0
  | i + 1, h => by
    unfold stI
    refine lo_or (st_lo b i (by omega)) ?_
    cases b i
    · exact lo_0
    · exact lo_one (by omega)
theorem st_bit (b : Nat → Bool) : ∀ i, i ≤ 5 → ∀ j, j < 5 → hbI (stI b i) (nI j) = (decide (j < i) && b j)
  | 0, _, j, hj => by rw [show stI b 0 = 0 from rfl, hb_zero j hj]; rfl
  | i + 1, h, j, hj => by
    unfold stI
    rw [hb_or _ _ j hj, st_bit b i (by omega) j hj]
    by_cases e : j = i
    · subst e
      cases hb : b j
      · simp [hb_zero j hj]
      · simp [hb_one j hj j hj]
    · have e1 : decide (j < i + 1) = decide (j < i) := by
        rw [decide_eq_decide]
        omega
      rw [e1]
      have e2 : hbI (if b i = true then 1 <<< (nI i &&& 31) else 0) (nI j) = false := by
        cases b i
        · exact hb_zero j hj
        · show hbI (1 <<< (nI i &&& 31)) (nI j) = false
          rw [hb_one i (by omega) j hj]
          exact decide_eq_false (fun z => e z.symm)
      rw [e2, Bool.or_false]
theorem lo_W {u : PU} {n : Nat} (hw : WF u n) : lo (pOp u) ∧ lo (pOn u) ∧ ∀ j, j < 5 → lo (pKn u j) := by
  obtain ⟨w1, w2, w3, w4, w5, w6, ⟨a, ha, ea⟩, ⟨b, hb, eb⟩, w9⟩ := hw
  exact ⟨⟨a, lt32 ha w2, ea⟩, ⟨b, lt32 hb w2, eb⟩, fun j hj => (by obtain ⟨k, hk, e⟩ := w6 j hj; exact ⟨k, lt32 hk w2, e⟩)⟩
theorem op_out {u : PU} {n j : Nat} (hw : WF u n) (h1 : n ≤ j) (h2 : j < 5) : hbI (pOp u) (nI j) = false := by
  obtain ⟨k, hk, e⟩ := hw.2.2.2.2.2.2.1
  rw [e, hb_out hk hw.2.1 h1 h2]
theorem has_out {n j : Nat} (hn : n ≤ 5) (h1 : n ≤ j) (h2 : j < 5) : hasI (nI n) (nI j) = false := by
  have key : ∀ n, n < 6 → ∀ j, j < 5 → n ≤ j → hasI (nI n) (nI j) = false := by decide +kernel
  exact key n (by omega) j h2 h1
theorem oz_out {u : PU} {n j : Nat} (hw : WF u n) (h1 : n ≤ j) (h2 : j < 5) : ozI u (nI j) = 0 := by
  unfold ozI
  rw [hw.1, has_out hw.2.1 h1 h2, if_pos rfl]
theorem fit_out {u : PU} {n j : Nat} {q : Int32} (hw : WF u n) (h1 : n ≤ j) (h2 : j < 5) : fitI u (nI j) q = false := by
  unfold fitI
  rw [oz_out hw h1 h2]
  rfl
/-! ===== whom nobody can weep for: both ways ===== -/
def nbJ (u : PU) (q : Nat) : Nat → Bool
  | 0 => hbI (pOp u) (nI q)
  | p + 1 => nbJ u q p && !mayI u (nI p) (nI q)
theorem tw_st (u : PU) (p : Int32) : ∀ i, twI u p i = stI (fun q => mayI u p (nI q)) i
  | 0 => rfl
  | i + 1 => by
    unfold twI stI
    rw [tw_st u p i]
    cases mayI u p (nI i)
    · exact (or0 _).symm
    · rfl
theorem uw_lo {u : PU} {n : Nat} (hw : WF u n) : ∀ i, lo (uwI u i)
  | 0 => (lo_W hw).1
  | i + 1 => by
    unfold uwI
    rw [tw_st]
    exact lo_andn (uw_lo hw i) (st_lo _ 5 (by omega))
theorem uw_bit (u : PU) (j : Nat) (hj : j < 5) : ∀ i, hbI (uwI u i) (nI j) = nbJ u j i
  | 0 => rfl
  | i + 1 => by
    unfold uwI nbJ
    rw [hb_and _ _ j hj, uw_bit u j hj i, hb_not _ j hj, tw_st, st_bit _ 5 (by omega) j hj, decide_eq_true hj, Bool.true_and]
theorem nb_n {u : PU} {n : Nat} (hw : WF u n) (q : Nat) : ∀ i, n + i ≤ 5 → nbJ u q (n + i) = nbJ u q n
  | 0, _ => rfl
  | i + 1, h => by
    show (nbJ u q (n + i) && !mayI u (nI (n + i)) (nI q)) = _
    have e : mayI u (nI (n + i)) (nI q) = false := by
      unfold mayI
      rw [fit_out hw (by omega) (by omega)]
      simp
    rw [e, nb_n hw q i (by omega)]
    simp
theorem nb_op {u : PU} {q : Nat} (h : hbI (pOp u) (nI q) = false) : ∀ i, nbJ u q i = false
  | 0 => h
  | i + 1 => by unfold nbJ; rw [nb_op h i]; rfl
theorem uw_eq {u : PU} {n : Nat} (hw : WF u n) : uwI u 5 = stI (fun q => nbJ u q n) n := by
  have h5 := hw.2.1
  refine hb_ext (uw_lo hw 5) (st_lo _ n h5) (fun j hj => ?_)
  rw [uw_bit u j hj, st_bit _ n h5 j hj]
  have e := nb_n hw j (5 - n) (by omega)
  rw [show n + (5 - n) = 5 by omega] at e
  rw [e]
  by_cases h1 : j < n
  · rw [decide_eq_true h1, Bool.true_and]
  · rw [decide_eq_false h1, Bool.false_and, nb_op (op_out hw (by omega) hj)]
theorem ka_st {u : PU} {n : Nat} (hw : WF u n) : ∀ i, i ≤ n → kaI u i = stI (fun q => decide ((pKn u q ||| 1 <<< (nI q &&& 31)) = evI (nI n))) i
  | 0, _ => rfl
  | i + 1, h => by
    unfold kaI stI
    rw [ka_st hw i (by omega)]
    have e : kaB u i = decide ((pKn u i ||| 1 <<< (nI i &&& 31)) = evI (nI n)) := by
      unfold kaB
      rw [hasW hw (by omega), hw.1, Bool.true_and]
    rw [e]
    cases decide ((pKn u i ||| 1 <<< (nI i &&& 31)) = evI (nI n))
    · exact (or0 _).symm
    · rfl
theorem ka_n {u : PU} {n : Nat} (hw : WF u n) : ∀ i, n + i ≤ 5 → kaI u (n + i) = kaI u n
  | 0, _ => rfl
  | i + 1, h => by
    show (if kaB u (n + i) = true then _ else kaI u (n + i)) = _
    have e : kaB u (n + i) = false := by
      unfold kaB
      rw [hw.1, has_out hw.2.1 (by omega) (by omega)]
      rfl
    rw [e, if_neg (by decide)]
    exact ka_n hw i (by omega)
theorem ka_eq {u : PU} {n : Nat} (hw : WF u n) : kaI u 5 = stI (fun q => decide ((pKn u q ||| 1 <<< (nI q &&& 31)) = evI (nI n))) n := by
  have h5 := hw.2.1
  have e := ka_n hw (5 - n) (by omega)
  rw [show n + (5 - n) = 5 by omega] at e
  rw [e, ka_st hw n (Nat.le_refl n)]
/-! ===== rings of debts: both ways ===== -/
def cnN (k : Nat) : Nat := k % 2 + k / 2 % 2 + k / 4 % 2 + k / 8 % 2 + k / 16 % 2
theorem cn_le : ∀ n, n < 6 → ∀ k, k < 2 ^ n → cnN k ≤ n := by decide +kernel
theorem cn_lt : ∀ a, a < 32 → ∀ b, b < 32 → (∀ j, j < 5 → hbI (nI a) (nI j) = true → hbI (nI b) (nI j) = true) → a ≠ b → cnN a < cnN b := by decide +kernel
def gd (n : Nat) (x : Int32) : Prop := ∃ k, k < 2 ^ n ∧ x = nI k
theorem gd_lo {n : Nat} {x : Int32} (hn : n ≤ 5) (h : gd n x) : lo x := by
  obtain ⟨k, hk, e⟩ := h
  exact ⟨k, lt32 hk hn, e⟩
theorem gd_of0 : ∀ n, n < 6 → ∀ k, k < 32 → (∀ j, j < 5 → n ≤ j → hbI (nI k) (nI j) = false) → k < 2 ^ n := by decide +kernel
theorem gd_of {n : Nat} {x : Int32} (hn : n ≤ 5) (h : lo x) (ho : ∀ j, j < 5 → n ≤ j → hbI x (nI j) = false) : gd n x := by
  obtain ⟨k, hk, rfl⟩ := h
  exact ⟨k, gd_of0 n (by omega) k hk ho, rfl⟩
def sb5 (x y : Int32) : Prop := ∀ j, j < 5 → hbI x (nI j) = true → hbI y (nI j) = true
theorem sb5_rf (x : Int32) : sb5 x x := fun _ _ h => h
theorem sb5_tr {x y z : Int32} (h1 : sb5 x y) (h2 : sb5 y z) : sb5 x z := fun j hj h => h2 j hj (h1 j hj h)
theorem sb5_or (x y : Int32) : sb5 x (x ||| y) := fun j hj h => by rw [hb_or _ _ j hj, h]; rfl
theorem sb5_eq {x y : Int32} (hx : lo x) (hy : lo y) (h1 : sb5 x y) (h2 : sb5 y x) : x = y := hb_ext hx hy (fun j hj => by
  rw [Bool.eq_iff_iff]
  exact ⟨h1 j hj, h2 j hj⟩)
theorem fixI {F : Int32 → Int32} {n : Nat} (hn : n ≤ 5) (inv : ∀ x, gd n x → gd n (F x) ∧ sb5 x (F x)) {it : Nat → Int32} (h0 : gd n (it 0)) (hs : ∀ i, it (i + 1) = F (it i)) : F (it n) = it n := by
  have hg : ∀ i, gd n (it i) := by
    intro i
    induction i with
    | zero => exact h0
    | succ i ih => rw [hs]; exact (inv _ ih).1
  have key : ∀ i, (∃ j, j < i ∧ F (it j) = it j) ∨ ∃ k, k < 2 ^ n ∧ it i = nI k ∧ i ≤ cnN k := by
    intro i
    induction i with
    | zero =>
      obtain ⟨k, hk, e⟩ := hg 0
      exact Or.inr ⟨k, hk, e, Nat.zero_le _⟩
    | succ i ih =>
      rcases ih with ⟨j, hj, e⟩ | ⟨k, hk, e, hc⟩
      · exact Or.inl ⟨j, by omega, e⟩
      · by_cases hf : F (it i) = it i
        · exact Or.inl ⟨i, by omega, hf⟩
        · obtain ⟨k', hk', e'⟩ := hg (i + 1)
          refine Or.inr ⟨k', hk', e', ?_⟩
          have h1 : cnN k < cnN k' := cn_lt k (lt32 hk hn) k' (lt32 hk' hn) (by
            have := (inv _ (hg i)).2
            rw [← hs, e', e] at this
            exact this) (fun z => hf (by rw [← hs, e', e, z]))
          omega
  have stay : ∀ j, F (it j) = it j → ∀ i, j ≤ i → it i = it j := by
    intro j hj i hi
    induction i with
    | zero => rw [show j = 0 by omega]
    | succ i ih =>
      by_cases h1 : j = i + 1
      · rw [h1]
      · rw [hs, ih (by omega), hj]
  rcases key (n + 1) with ⟨j, hj, e⟩ | ⟨k, hk, e, hc⟩
  · rw [stay j e n (by omega), e]
  · have := cn_le n (by omega) k hk
    omega
/-- who owes whom -/
def rgE (u : PU) (a b : Nat) : Bool := !decide (dbI u (nI a) (nI b) ≤ 0)
theorem rgE_out {u : PU} {n a b : Nat} (hw : WF u n) (ha : a < 5) (hb : b < 5) (h : n ≤ a ∨ n ≤ b) : rgE u a b = false := by
  have e : dbI u (nI a) (nI b) = 0 := by
    unfold dbI
    rw [hw.1]
    rcases h with h | h
    · rw [has_out hw.2.1 h ha, if_neg (by decide)]
    · rw [has_out hw.2.1 h hb, if_neg (c := false = true) (by decide)]
      split <;> rfl
  unfold rgE
  rw [e]
  rfl
theorem cr_st (u : PU) (a : Nat) : ∀ i, crI u (nI a) i = stI (rgE u a) i
  | 0 => rfl
  | i + 1 => by
    unfold crI stI
    rw [cr_st u a i]
    unfold rgE
    by_cases h : dbI u (nI a) (nI i) ≤ 0
    · rw [if_pos h, decide_eq_true h]
      exact (or0 _).symm
    · rw [if_neg h, decide_eq_false h]
      rfl
theorem cr_bit {u : PU} {a b : Nat} (hb : b < 5) : hbI (crI u (nI a) 5) (nI b) = rgE u a b := by
  rw [cr_st, st_bit _ 5 (by omega) b hb, decide_eq_true hb, Bool.true_and]
theorem cr_lo (u : PU) (a : Nat) : lo (crI u (nI a) 5) := by rw [cr_st]; exact st_lo _ 5 (by omega)
def clD (u : PU) (p : Nat) (x : Int32) : Prop := (∀ b, b < 5 → rgE u p b = true → hbI x (nI b) = true) ∧ ∀ a, a < 5 → ∀ b, b < 5 → hbI x (nI a) = true → rgE u a b = true → hbI x (nI b) = true
-- the object's
theorem rbJ_lo (u : PU) {r : Int32} (h : lo r) : ∀ i, lo (rbJ u r i)
  | 0 => h
  | i + 1 => by
    unfold rbJ
    exact lo_if (lo_or (rbJ_lo u h i) (cr_lo u i)) (rbJ_lo u h i)
theorem rbJ_up (u : PU) (r : Int32) (i : Nat) : sb5 (rbJ u r i) (rbJ u r (i + 1)) := by
  show sb5 _ (if hbI (rbJ u r i) (nI i) = true then rbJ u r i ||| crI u (nI i) 5 else rbJ u r i)
  split
  · exact sb5_or _ _
  · exact sb5_rf _
theorem rbJ_le (u : PU) (r : Int32) {i : Nat} : ∀ k, sb5 (rbJ u r i) (rbJ u r (i + k))
  | 0 => sb5_rf _
  | k + 1 => sb5_tr (rbJ_le u r k) (rbJ_up u r (i + k))
theorem rb_lo (u : PU) (p : Nat) : ∀ i, lo (rbI u (nI p) i)
  | 0 => cr_lo u p
  | i + 1 => rbJ_lo u (rb_lo u p i) 5
theorem rb_fix (u : PU) (p : Nat) : rbJ u (rbI u (nI p) 5) 5 = rbI u (nI p) 5 := by
  have g : ∀ x, lo x ↔ gd 5 x := fun x => Iff.rfl
  exact fixI (F := fun x => rbJ u x 5) (n := 5) (it := rbI u (nI p)) (by omega) (fun x hx => ⟨rbJ_lo u hx 5, by have := rbJ_le u x (i := 0) 5; exact this⟩) (rb_lo u p 0) (fun i => rfl)
theorem rb_mono (u : PU) (p : Nat) : ∀ i, sb5 (crI u (nI p) 5) (rbI u (nI p) i)
  | 0 => sb5_rf _
  | i + 1 => sb5_tr (rb_mono u p i) (by have := rbJ_le u (rbI u (nI p) i) (i := 0) 5; exact this)
theorem rb_cl (u : PU) (p : Nat) : clD u p (rbI u (nI p) 5) := by
  refine ⟨fun b hb h => rb_mono u p 5 b hb (by rw [cr_bit hb]; exact h), fun a ha b hb h1 h2 => ?_⟩
  have s1 : sb5 (rbI u (nI p) 5) (rbJ u (rbI u (nI p) 5) a) := by
    have := rbJ_le u (rbI u (nI p) 5) (i := 0) a
    rw [Nat.zero_add] at this
    exact this
  have s2 : sb5 (rbJ u (rbI u (nI p) 5) (a + 1)) (rbI u (nI p) 5) := by
    have := rbJ_le u (rbI u (nI p) 5) (i := a + 1) (4 - a)
    rw [show a + 1 + (4 - a) = 5 by omega, rb_fix] at this
    exact this
  refine s2 b hb ?_
  show hbI (if hbI (rbJ u (rbI u (nI p) 5) a) (nI a) = true then rbJ u (rbI u (nI p) 5) a ||| crI u (nI a) 5 else rbJ u (rbI u (nI p) 5) a) (nI b) = true
  rw [if_pos (s1 a ha h1), hb_or _ _ b hb, cr_bit hb, h2, Bool.or_true]
theorem rb_in {u : PU} {p : Nat} {D : Int32} (h : clD u p D) : ∀ i, sb5 (rbI u (nI p) i) D
  | 0 => fun b hb hx => h.1 b hb (by rw [← cr_bit hb]; exact hx)
  | i + 1 => by
    have key : ∀ j, j ≤ 5 → sb5 (rbJ u (rbI u (nI p) i) j) D := by
      intro j hj
      induction j with
      | zero => exact rb_in h i
      | succ j ih =>
        have ih := ih (by omega)
        show sb5 (if hbI (rbJ u (rbI u (nI p) i) j) (nI j) = true then rbJ u (rbI u (nI p) i) j ||| crI u (nI j) 5 else rbJ u (rbI u (nI p) i) j) D
        split
        · rename_i hh
          intro b hb hx
          rw [hb_or _ _ b hb, cr_bit hb, Bool.or_eq_true] at hx
          rcases hx with hx | hx
          · exact ih b hb hx
          · exact h.2 j (by omega) b hb (ih j (by omega) hh) hx
        · exact ih
    exact key 5 (Nat.le_refl 5)
-- the reference's
def rg1 (u : PU) (a : Nat) (fr : Bool) (c : Int32) : Nat → Int32
  | 0 => c
  | b + 1 => rg1 u a fr c b ||| (if (fr && rgE u a b) = true then 1 <<< (nI b &&& 31) else 0)
def rgF (p a : Nat) (c : Int32) : Bool := decide (a = p) || hbI c (nI a)
def rg2 (u : PU) (n p : Nat) (c : Int32) : Nat → Int32
  | 0 => c
  | a + 1 => rg1 u a (rgF p a (rg2 u n p c a)) (rg2 u n p c a) n
def rg3 (u : PU) (n p : Nat) : Nat → Int32
  | 0 => 0
  | k + 1 => rg2 u n p (rg3 u n p k) n
theorem rg1_gd {u : PU} {n a : Nat} {fr : Bool} {c : Int32} (hn : n ≤ 5) (h : gd n c) : ∀ b, b ≤ n → gd n (rg1 u a fr c b)
  | 0, _ => h
  | b + 1, hb => by
    unfold rg1
    refine gd_of hn (lo_or (gd_lo hn (rg1_gd hn h b (by omega))) (lo_if (lo_one (by omega)) lo_0)) (fun j hj hnj => ?_)
    have e1 : hbI (rg1 u a fr c b) (nI j) = false := by
      obtain ⟨k, hk, e⟩ := rg1_gd (u := u) (a := a) (fr := fr) hn h b (by omega)
      rw [e, hb_out hk hn hnj hj]
    rw [hb_or _ _ j hj, e1, Bool.false_or]
    cases (fr && rgE u a b)
    · exact hb_zero j hj
    · show hbI (1 <<< (nI b &&& 31)) (nI j) = false
      rw [hb_one b (by omega) j hj]
      exact decide_eq_false (by omega)
theorem rg1_bit {u : PU} {a : Nat} {fr : Bool} {c : Int32} {j : Nat} (hj : j < 5) : ∀ b, b ≤ 5 → hbI (rg1 u a fr c b) (nI j) = (hbI c (nI j) || (fr && (decide (j < b) && rgE u a j)))
  | 0, _ => by unfold rg1; simp
  | b + 1, hb => by
    unfold rg1
    rw [hb_or _ _ j hj, rg1_bit hj b (by omega)]
    by_cases e : j = b
    · subst e
      cases fr <;> cases rgE u a j <;> simp [hb_zero j hj, hb_one j hj j hj]
    · have e1 : decide (j < b + 1) = decide (j < b) := by
        rw [decide_eq_decide]
        omega
      have e2 : hbI (if (fr && rgE u a b) = true then 1 <<< (nI b &&& 31) else 0) (nI j) = false := by
        cases (fr && rgE u a b)
        · exact hb_zero j hj
        · show hbI (1 <<< (nI b &&& 31)) (nI j) = false
          rw [hb_one b (by omega) j hj]
          exact decide_eq_false (fun z => e z.symm)
      rw [e1, e2, Bool.or_false]
theorem rg2_gd {u : PU} {n p : Nat} {c : Int32} (hn : n ≤ 5) (h : gd n c) : ∀ a, gd n (rg2 u n p c a)
  | 0 => h
  | a + 1 => rg1_gd hn (rg2_gd hn h a) n (Nat.le_refl n)
theorem rg2_up {u : PU} {n p : Nat} {c : Int32} (hn : n ≤ 5) (a : Nat) : sb5 (rg2 u n p c a) (rg2 u n p c (a + 1)) := fun j hj h => by
  show hbI (rg1 u a (rgF p a (rg2 u n p c a)) (rg2 u n p c a) n) (nI j) = true
  rw [rg1_bit hj n hn, h]
  rfl
theorem rg2_le {u : PU} {n p : Nat} {c : Int32} (hn : n ≤ 5) {a : Nat} : ∀ k, sb5 (rg2 u n p c a) (rg2 u n p c (a + k))
  | 0 => sb5_rf _
  | k + 1 => sb5_tr (rg2_le hn k) (rg2_up hn (a + k))
theorem rg3_gd {u : PU} {n p : Nat} (hn : n ≤ 5) : ∀ k, gd n (rg3 u n p k)
  | 0 => ⟨0, Nat.two_pow_pos n, rfl⟩
  | k + 1 => rg2_gd hn (rg3_gd hn k) n
theorem rg3_fix {u : PU} {n p : Nat} (hn : n ≤ 5) : rg2 u n p (rg3 u n p n) n = rg3 u n p n :=
  fixI (F := fun x => rg2 u n p x n) (n := n) (it := rg3 u n p) hn (fun x hx => ⟨rg2_gd hn hx n, by have := rg2_le (u := u) (p := p) (c := x) hn (a := 0) n; rw [Nat.zero_add] at this; exact this⟩) (rg3_gd hn 0) (fun i => rfl)
theorem rg3_cl {u : PU} {n p : Nat} (hw : WF u n) (hp : p < n) : clD u p (rg3 u n p n) := by
  have hn := hw.2.1
  have step : ∀ a, a < n → ∀ b, b < n → (a = p ∨ hbI (rg3 u n p n) (nI a) = true) → rgE u a b = true → hbI (rg3 u n p n) (nI b) = true := by
    intro a ha b hb h1 h2
    have s1 : sb5 (rg3 u n p n) (rg2 u n p (rg3 u n p n) a) := by
      have := rg2_le (u := u) (p := p) (c := rg3 u n p n) hn (a := 0) a
      rw [Nat.zero_add] at this
      exact this
    have s2 : sb5 (rg2 u n p (rg3 u n p n) (a + 1)) (rg3 u n p n) := by
      have := rg2_le (u := u) (p := p) (c := rg3 u n p n) hn (a := a + 1) (n - 1 - a)
      rw [show a + 1 + (n - 1 - a) = n by omega, rg3_fix hn] at this
      exact this
    refine s2 b (by omega) ?_
    show hbI (rg1 u a (rgF p a (rg2 u n p (rg3 u n p n) a)) (rg2 u n p (rg3 u n p n) a) n) (nI b) = true
    have e : rgF p a (rg2 u n p (rg3 u n p n) a) = true := by
      unfold rgF
      rcases h1 with h1 | h1
      · rw [decide_eq_true h1]; rfl
      · rw [s1 a (by omega) h1, Bool.or_true]
    rw [rg1_bit (by omega) n hn, e, h2, decide_eq_true hb]
    simp
  have inn : ∀ a, a < 5 → ∀ b, b < 5 → rgE u a b = true → a < n ∧ b < n := by
    intro a ha b hb h
    refine ⟨?_, ?_⟩
    · rcases Nat.lt_or_ge a n with q | q
      · exact q
      · rw [rgE_out hw ha hb (Or.inl q)] at h; cases h
    · rcases Nat.lt_or_ge b n with q | q
      · exact q
      · rw [rgE_out hw ha hb (Or.inr q)] at h; cases h
  exact ⟨fun b hb h => step p hp b (inn p (by omega) b hb h).2 (Or.inl rfl) h, fun a ha b hb h1 h2 => step a (inn a ha b hb h2).1 b (inn a ha b hb h2).2 (Or.inr h1) h2⟩
theorem rg3_in {u : PU} {n p : Nat} {D : Int32} (hn : n ≤ 5) (h : clD u p D) : ∀ k, sb5 (rg3 u n p k) D
  | 0 => fun b hb hx => by
    have e : hbI (rg3 u n p 0) (nI b) = false := hb_zero b hb
    rw [e] at hx
    cases hx
  | k + 1 => by
    have key : ∀ a, a ≤ n → sb5 (rg2 u n p (rg3 u n p k) a) D := by
      intro a ha
      induction a with
      | zero => exact rg3_in hn h k
      | succ a ih =>
        have ih := ih (by omega)
        intro b hb hx
        have hx : hbI (rg1 u a (rgF p a (rg2 u n p (rg3 u n p k) a)) (rg2 u n p (rg3 u n p k) a) n) (nI b) = true := hx
        rw [rg1_bit hb n hn, Bool.or_eq_true, Bool.and_eq_true, Bool.and_eq_true] at hx
        rcases hx with hx | ⟨h1, h2, h3⟩
        · exact ih b hb hx
        · unfold rgF at h1
          rw [Bool.or_eq_true, decide_eq_true_eq] at h1
          rcases h1 with h1 | h1
          · subst h1; exact h.1 b hb h3
          · exact h.2 a (by omega) b hb (ih a (by omega) h1) h3
    exact key n (Nat.le_refl n)
theorem rg_rb {u : PU} {n p : Nat} (hw : WF u n) (hp : p < n) : rg3 u n p n = rbI u (nI p) 5 :=
  sb5_eq (gd_lo hw.2.1 (rg3_gd hw.2.1 n)) (rb_lo u p 5) (rg3_in hw.2.1 (rb_cl u p) n) (rb_in (rg3_cl hw hp) 5)
theorem and_one : ∀ k, k < 32 → ∀ i, i < 5 → nI k &&& 1 <<< (nI i &&& 31) = if hbI (nI k) (nI i) = true then 1 <<< (nI i &&& 31) else 0 := by decide +kernel
theorem ri_st {u : PU} {n : Nat} (hw : WF u n) : ∀ i, i ≤ n → riI u i = stI (fun p => hbI (rg3 u n p n) (nI p)) i
  | 0, _ => rfl
  | i + 1, h => by
    have h5 := hw.2.1
    unfold riI stI
    rw [ri_st hw i (by omega), rg_rb hw (by omega)]
    obtain ⟨k, hk, e⟩ := rb_lo u i 5
    rw [e, and_one k hk i (by omega)]
