section KO
variable {Y : kx_Y} {d kc ks : Nat} {G : kx_G} {cs ss pc : Nat} {lv : List (Nat × Value)} {st : List Value} {N : Nat} {h : kx_H} {res : kx_R}
theorem ko_iadd {x y : Int32} (hdg : decode Y.2.1 pc = .ok (.iadd, 1))  (k : kx_Ok Y d kc ks G cs ss (pc + 1) lv (.int (x + y) :: st) N h res) : kx_Ok Y d kc ks G cs ss pc lv (.int y :: .int x :: st) N h res := by
  intro p l e R s m args below meth c D κ A Z H locs ls hC hW hF
  exact lv_iadd hC.1 hC.2.1 hdg  (k p l e R s m args below meth c D κ A Z H locs ls hC hW hF)
theorem ko_isub {x y : Int32} (hdg : decode Y.2.1 pc = .ok (.isub, 1))  (k : kx_Ok Y d kc ks G cs ss (pc + 1) lv (.int (x - y) :: st) N h res) : kx_Ok Y d kc ks G cs ss pc lv (.int y :: .int x :: st) N h res := by
  intro p l e R s m args below meth c D κ A Z H locs ls hC hW hF
  exact lv_isub hC.1 hC.2.1 hdg  (k p l e R s m args below meth c D κ A Z H locs ls hC hW hF)
theorem ko_imul {x y : Int32} (hdg : decode Y.2.1 pc = .ok (.imul, 1))  (k : kx_Ok Y d kc ks G cs ss (pc + 1) lv (.int (x * y) :: st) N h res) : kx_Ok Y d kc ks G cs ss pc lv (.int y :: .int x :: st) N h res := by
  intro p l e R s m args below meth c D κ A Z H locs ls hC hW hF
  exact lv_imul hC.1 hC.2.1 hdg  (k p l e R s m args below meth c D κ A Z H locs ls hC hW hF)
theorem ko_iand {x y : Int32} (hdg : decode Y.2.1 pc = .ok (.iand, 1))  (k : kx_Ok Y d kc ks G cs ss (pc + 1) lv (.int (x &&& y) :: st) N h res) : kx_Ok Y d kc ks G cs ss pc lv (.int y :: .int x :: st) N h res := by
  intro p l e R s m args below meth c D κ A Z H locs ls hC hW hF
  exact lv_iand hC.1 hC.2.1 hdg  (k p l e R s m args below meth c D κ A Z H locs ls hC hW hF)
theorem ko_ior {x y : Int32} (hdg : decode Y.2.1 pc = .ok (.ior, 1))  (k : kx_Ok Y d kc ks G cs ss (pc + 1) lv (.int (x ||| y) :: st) N h res) : kx_Ok Y d kc ks G cs ss pc lv (.int y :: .int x :: st) N h res := by
  intro p l e R s m args below meth c D κ A Z H locs ls hC hW hF
  exact lv_ior hC.1 hC.2.1 hdg  (k p l e R s m args below meth c D κ A Z H locs ls hC hW hF)
theorem ko_ixor {x y : Int32} (hdg : decode Y.2.1 pc = .ok (.ixor, 1))  (k : kx_Ok Y d kc ks G cs ss (pc + 1) lv (.int (x ^^^ y) :: st) N h res) : kx_Ok Y d kc ks G cs ss pc lv (.int y :: .int x :: st) N h res := by
  intro p l e R s m args below meth c D κ A Z H locs ls hC hW hF
  exact lv_ixor hC.1 hC.2.1 hdg  (k p l e R s m args below meth c D κ A Z H locs ls hC hW hF)
theorem ko_ishl {x y : Int32} (hdg : decode Y.2.1 pc = .ok (.ishl, 1))  (k : kx_Ok Y d kc ks G cs ss (pc + 1) lv (.int (x <<< (y &&& 31)) :: st) N h res) : kx_Ok Y d kc ks G cs ss pc lv (.int y :: .int x :: st) N h res := by
  intro p l e R s m args below meth c D κ A Z H locs ls hC hW hF
  exact lv_ishl hC.1 hC.2.1 hdg  (k p l e R s m args below meth c D κ A Z H locs ls hC hW hF)
theorem ko_ishr {x y : Int32} (hdg : decode Y.2.1 pc = .ok (.ishr, 1))  (k : kx_Ok Y d kc ks G cs ss (pc + 1) lv (.int (x >>> (y &&& 31)) :: st) N h res) : kx_Ok Y d kc ks G cs ss pc lv (.int y :: .int x :: st) N h res := by
  intro p l e R s m args below meth c D κ A Z H locs ls hC hW hF
  exact lv_ishr hC.1 hC.2.1 hdg  (k p l e R s m args below meth c D κ A Z H locs ls hC hW hF)
theorem ko_idiv {x y : Int32} (hdg : decode Y.2.1 pc = .ok (.idiv, 1)) (hne : ¬ y = 0) (k : kx_Ok Y d kc ks G cs ss (pc + 1) lv (.int (x / y) :: st) N h res) : kx_Ok Y d kc ks G cs ss pc lv (.int y :: .int x :: st) N h res := by
  intro p l e R s m args below meth c D κ A Z H locs ls hC hW hF
  exact lv_idiv hC.1 hC.2.1 hdg hne (k p l e R s m args below meth c D κ A Z H locs ls hC hW hF)
theorem ko_irem {x y : Int32} (hdg : decode Y.2.1 pc = .ok (.irem, 1)) (hne : ¬ y = 0) (k : kx_Ok Y d kc ks G cs ss (pc + 1) lv (.int (x - x / y * y) :: st) N h res) : kx_Ok Y d kc ks G cs ss pc lv (.int y :: .int x :: st) N h res := by
  intro p l e R s m args below meth c D κ A Z H locs ls hC hW hF
  exact lv_irem hC.1 hC.2.1 hdg hne (k p l e R s m args below meth c D κ A Z H locs ls hC hW hF)
theorem ko_ladd {x y : Int64} (hdg : decode Y.2.1 pc = .ok (.ladd, 1))  (k : kx_Ok Y d kc ks G cs ss (pc + 1) lv (.long (x + y) :: st) N h res) : kx_Ok Y d kc ks G cs ss pc lv (.long y :: .long x :: st) N h res := by
  intro p l e R s m args below meth c D κ A Z H locs ls hC hW hF
  exact lv_ladd hC.1 hC.2.1 hdg  (k p l e R s m args below meth c D κ A Z H locs ls hC hW hF)
theorem ko_lmul {x y : Int64} (hdg : decode Y.2.1 pc = .ok (.lmul, 1))  (k : kx_Ok Y d kc ks G cs ss (pc + 1) lv (.long (x * y) :: st) N h res) : kx_Ok Y d kc ks G cs ss pc lv (.long y :: .long x :: st) N h res := by
  intro p l e R s m args below meth c D κ A Z H locs ls hC hW hF
  exact lv_lmul hC.1 hC.2.1 hdg  (k p l e R s m args below meth c D κ A Z H locs ls hC hW hF)
theorem ko_land {x y : Int64} (hdg : decode Y.2.1 pc = .ok (.land, 1))  (k : kx_Ok Y d kc ks G cs ss (pc + 1) lv (.long (x &&& y) :: st) N h res) : kx_Ok Y d kc ks G cs ss pc lv (.long y :: .long x :: st) N h res := by
  intro p l e R s m args below meth c D κ A Z H locs ls hC hW hF
  exact lv_land hC.1 hC.2.1 hdg  (k p l e R s m args below meth c D κ A Z H locs ls hC hW hF)
theorem ko_lor {x y : Int64} (hdg : decode Y.2.1 pc = .ok (.lor, 1))  (k : kx_Ok Y d kc ks G cs ss (pc + 1) lv (.long (x ||| y) :: st) N h res) : kx_Ok Y d kc ks G cs ss pc lv (.long y :: .long x :: st) N h res := by
  intro p l e R s m args below meth c D κ A Z H locs ls hC hW hF
  exact lv_lor hC.1 hC.2.1 hdg  (k p l e R s m args below meth c D κ A Z H locs ls hC hW hF)
theorem ko_lrem {x y : Int64} (hdg : decode Y.2.1 pc = .ok (.lrem, 1)) (hne : ¬ y = 0) (k : kx_Ok Y d kc ks G cs ss (pc + 1) lv (.long (x - x / y * y) :: st) N h res) : kx_Ok Y d kc ks G cs ss pc lv (.long y :: .long x :: st) N h res := by
  intro p l e R s m args below meth c D κ A Z H locs ls hC hW hF
  exact lv_lrem hC.1 hC.2.1 hdg hne (k p l e R s m args below meth c D κ A Z H locs ls hC hW hF)
theorem ko_ineg {x : Int32} (hdg : decode Y.2.1 pc = .ok (.ineg, 1)) (k : kx_Ok Y d kc ks G cs ss (pc + 1) lv (.int (-x) :: st) N h res) : kx_Ok Y d kc ks G cs ss pc lv (.int x :: st) N h res := by
  intro p l e R s m args below meth c D κ A Z H locs ls hC hW hF
  exact lv_ineg hC.1 hC.2.1 hdg (k p l e R s m args below meth c D κ A Z H locs ls hC hW hF)
theorem ko_i2l {x : Int32} (hdg : decode Y.2.1 pc = .ok (.i2l, 1)) (k : kx_Ok Y d kc ks G cs ss (pc + 1) lv (.long x.toInt64 :: st) N h res) : kx_Ok Y d kc ks G cs ss pc lv (.int x :: st) N h res := by
  intro p l e R s m args below meth c D κ A Z H locs ls hC hW hF
  exact lv_i2l hC.1 hC.2.1 hdg rfl (k p l e R s m args below meth c D κ A Z H locs ls hC hW hF)
theorem ko_l2i {x : Int64} (hdg : decode Y.2.1 pc = .ok (.l2i, 1)) (k : kx_Ok Y d kc ks G cs ss (pc + 1) lv (.int x.toInt32 :: st) N h res) : kx_Ok Y d kc ks G cs ss pc lv (.long x :: st) N h res := by
  intro p l e R s m args below meth c D κ A Z H locs ls hC hW hF
  exact lv_l2i hC.1 hC.2.1 hdg rfl (k p l e R s m args below meth c D κ A Z H locs ls hC hW hF)
theorem ko_lushr {x : Int64} {y : Int32} (hdg : decode Y.2.1 pc = .ok (.lushr, 1)) (k : kx_Ok Y d kc ks G cs ss (pc + 1) lv (.long (x.toUInt64 >>> (y.toInt64.toUInt64 &&& Int64.toUInt64 63)).toInt64 :: st) N h res) : kx_Ok Y d kc ks G cs ss pc lv (.int y :: .long x :: st) N h res := by
  intro p l e R s m args below meth c D κ A Z H locs ls hC hW hF
  exact lv_lushr hC.1 hC.2.1 hdg rfl (k p l e R s m args below meth c D κ A Z H locs ls hC hW hF)
theorem ko_iushr {x y : Int32} (hdg : decode Y.2.1 pc = .ok (.iushr, 1)) (k : kx_Ok Y d kc ks G cs ss (pc + 1) lv (.int (x.toUInt32 >>> (y.toUInt32 &&& Int32.toUInt32 31)).toInt32 :: st) N h res) : kx_Ok Y d kc ks G cs ss pc lv (.int y :: .int x :: st) N h res := by
  intro p l e R s m args below meth c D κ A Z H locs ls hC hW hF
  exact lv_iushr hC.1 hC.2.1 hdg rfl (k p l e R s m args below meth c D κ A Z H locs ls hC hW hF)
theorem ko_ldcw {v : Int32} {index : Nat} (hw : Cond.constant Y.1.cls index v ∈ kx_tbl) (hdg : decode Y.2.1 pc = .ok (.ldc_w index, 3)) (k : kx_Ok Y d kc ks G cs ss (pc + 3) lv (.int v :: st) N h res) : kx_Ok Y d kc ks G cs ss pc lv (st) N h res := by
  intro p l e R s m args below meth c D κ A Z H locs ls hC hW hF
  exact lv_ldcw hC.1 hC.2.1 hC.2.2.2.2.1 (hC.2.2.2.2.2.1 _ hw) hdg (k p l e R s m args below meth c D κ A Z H locs ls hC hW hF)
theorem ko_lshl {x : Int64} {y : Int32} (hdg : decode Y.2.1 pc = .ok (.lshl, 1)) (k : kx_Ok Y d kc ks G cs ss (pc + 1) lv (.long (x <<< (y.toInt64 &&& 63)) :: st) N h res) : kx_Ok Y d kc ks G cs ss pc lv (.int y :: .long x :: st) N h res := by
  intro p l e R s m args below meth c D κ A Z H locs ls hC hW hF
  exact lv_lshl hC.1 hC.2.1 hdg rfl (k p l e R s m args below meth c D κ A Z H locs ls hC hW hF)
theorem ko_iconst {n : Int} {v : Int32} (hdg : decode Y.2.1 pc = .ok (.iconst n, 1)) (hv : Int32.ofInt n = v) (k : kx_Ok Y d kc ks G cs ss (pc + 1) lv (.int v :: st) N h res) : kx_Ok Y d kc ks G cs ss pc lv (st) N h res := by
  intro p l e R s m args below meth c D κ A Z H locs ls hC hW hF
  exact lv_iconst hC.1 hC.2.1 hdg hv (k p l e R s m args below meth c D κ A Z H locs ls hC hW hF)
theorem ko_bipush {n : Int} {v : Int32} (hdg : decode Y.2.1 pc = .ok (.bipush n, 2)) (hv : (Int8.ofInt n).toInt32 = v) (k : kx_Ok Y d kc ks G cs ss (pc + 2) lv (.int v :: st) N h res) : kx_Ok Y d kc ks G cs ss pc lv (st) N h res := by
  intro p l e R s m args below meth c D κ A Z H locs ls hC hW hF
  exact lv_bipush hC.1 hC.2.1 hdg hv (k p l e R s m args below meth c D κ A Z H locs ls hC hW hF)
theorem ko_sipush {n : Int} {v : Int32} (hdg : decode Y.2.1 pc = .ok (.sipush n, 3)) (hv : (Int16.ofInt n).toInt32 = v) (k : kx_Ok Y d kc ks G cs ss (pc + 3) lv (.int v :: st) N h res) : kx_Ok Y d kc ks G cs ss pc lv (st) N h res := by
  intro p l e R s m args below meth c D κ A Z H locs ls hC hW hF
  exact lv_sipush hC.1 hC.2.1 hdg hv (k p l e R s m args below meth c D κ A Z H locs ls hC hW hF)
theorem ko_lconst {n : Fin 2} {v : Int64} (hdg : decode Y.2.1 pc = .ok (.lconst n, 1)) (hv : Int64.ofNat (n : Nat) = v) (k : kx_Ok Y d kc ks G cs ss (pc + 1) lv (.long v :: st) N h res) : kx_Ok Y d kc ks G cs ss pc lv (st) N h res := by
  intro p l e R s m args below meth c D κ A Z H locs ls hC hW hF
  exact lv_lconst hC.1 hC.2.1 hdg hv (k p l e R s m args below meth c D κ A Z H locs ls hC hW hF)
theorem ko_ldc2 {v : Int64} {index : Nat} (hdg : decode Y.2.1 pc = .ok (.ldc2_w index, 3)) (hw : Cond.constantLong Y.1.cls index v ∈ kx_tbl) (k : kx_Ok Y d kc ks G cs ss (pc + 3) lv (.long v :: st) N h res) : kx_Ok Y d kc ks G cs ss pc lv (st) N h res := by
  intro p l e R s m args below meth c D κ A Z H locs ls hC hW hF
  exact lv_ldc2 hC.1 hC.2.1 hC.2.2.2.2.1 (hC.2.2.2.2.2.1 _ hw) hdg (k p l e R s m args below meth c D κ A Z H locs ls hC hW hF)
theorem ko_dup {v : Value} (hdg : decode Y.2.1 pc = .ok (.dup, 1)) (hv : v.category = 1) (k : kx_Ok Y d kc ks G cs ss (pc + 1) lv (v :: v :: st) N h res) : kx_Ok Y d kc ks G cs ss pc lv (v :: st) N h res := by
  intro p l e R s m args below meth c D κ A Z H locs ls hC hW hF
  exact lv_dup hC.1 hC.2.1 hdg hv (k p l e R s m args below meth c D κ A Z H locs ls hC hW hF)
theorem ko_pop {v : Value} (hdg : decode Y.2.1 pc = .ok (.pop, 1)) (hv : v.category = 1) (k : kx_Ok Y d kc ks G cs ss (pc + 1) lv (st) N h res) : kx_Ok Y d kc ks G cs ss pc lv (v :: st) N h res := by
  intro p l e R s m args below meth c D κ A Z H locs ls hC hW hF
  exact lv_pop hC.1 hC.2.1 hdg hv (k p l e R s m args below meth c D κ A Z H locs ls hC hW hF)
theorem ko_dup2 {v w : Value} (hdg : decode Y.2.1 pc = .ok (.dup2, 1)) (hv : v.category = 1) (hw : w.category = 1) (k : kx_Ok Y d kc ks G cs ss (pc + 1) lv (v :: w :: v :: w :: st) N h res) : kx_Ok Y d kc ks G cs ss pc lv (v :: w :: st) N h res := by
  intro p l e R s m args below meth c D κ A Z H locs ls hC hW hF
  exact lv_dup2_11 hC.1 hC.2.1 hdg hv hw (k p l e R s m args below meth c D κ A Z H locs ls hC hW hF)
theorem ko_dup2L {v : Value} (hdg : decode Y.2.1 pc = .ok (.dup2, 1)) (hv : v.category = 2) (k : kx_Ok Y d kc ks G cs ss (pc + 1) lv (v :: v :: st) N h res) : kx_Ok Y d kc ks G cs ss pc lv (v :: st) N h res := by
  intro p l e R s m args below meth c D κ A Z H locs ls hC hW hF
  exact lv_dup2_2 hC.1 hC.2.1 hdg hv (k p l e R s m args below meth c D κ A Z H locs ls hC hW hF)
theorem ko_goto {off : Int} {tgt : Nat} (hdg : decode Y.2.1 pc = .ok (.goto off, 3)) (ht : (pc : Int) + off = (tgt : Int)) (k : kx_Ok Y d kc ks G cs ss (tgt) lv (st) N h res) : kx_Ok Y d kc ks G cs ss pc lv (st) N h res := by
  intro p l e R s m args below meth c D κ A Z H locs ls hC hW hF
  exact lv_goto hC.1 hC.2.1 hdg ht (k p l e R s m args below meth c D κ A Z H locs ls hC hW hF)
def kx_lk : List (Nat × Value) → Nat → Option Value
  | [], _ => none
  | q :: r, i => bif Nat.beq q.1 i then some q.2 else kx_lk r i
def kx_set : List (Nat × Value) → Nat → Value → List (Nat × Value)
  | [], i, v => [(i, v)]
  | q :: r, i, v => bif Nat.beq q.1 i then (i, v) :: r else q :: kx_set r i v
/-- no long stands half in place i, and each place stands once -/
def kx_nl : List (Nat × Value) → Nat → Bool
  | [], _ => true
  | q :: r, i => (bif Nat.beq (q.1 + 1) i then Nat.beq q.2.category 1 else true) && kx_nl r i
def kx_on : List (Nat × Value) → Bool
  | [] => true
  | q :: r => (kx_lk r q.1).isNone && kx_on r
def kx_keep (lv : List (Nat × Value)) (ks : List Nat) : List (Nat × Value) := ks.filterMap (fun k => (kx_lk lv k).map (fun v => (k, v)))
theorem kx_lk_mem : ∀ {lv : List (Nat × Value)} {i : Nat} {v : Value}, kx_lk lv i = some v → (i, v) ∈ lv
  | [], _, _, h => by cases h
  | q :: r, i, v, h => by
    unfold kx_lk at h
    cases hb : Nat.beq q.1 i with
    | true =>
      rw [hb] at h
      have e1 : q.1 = i := Nat.eq_of_beq_eq_true hb
      have e2 : q.2 = v := Option.some.inj h
      subst e1; subst e2
      exact List.mem_cons_self
    | false =>
      rw [hb] at h
      exact List.mem_cons_of_mem _ (kx_lk_mem h)
theorem kx_lk_at {ls : Array Slot} {n : Nat} {lv : List (Nat × Value)} {i : Nat} {v : Value} (hl : lv_has ls n lv) (h : kx_lk lv i = some v) : ls[i]? = some (.val v) := hl.2.2 (i, v) (kx_lk_mem h)
theorem kx_lk_none : ∀ {r : List (Nat × Value)} {i : Nat}, kx_lk r i = none → ∀ q ∈ r, q.1 = i → False
  | [], _, _, q, hq, _ => by cases hq
  | x :: r, i, h, q, hq, e => by
    unfold kx_lk at h
    cases hb : Nat.beq x.1 i with
    | true => rw [hb] at h; cases h
    | false =>
      rw [hb] at h
      rcases List.mem_cons.mp hq with hq | hq
      · subst hq; rw [e, Nat.beq_refl] at hb; cases hb
      · exact kx_lk_none h q hq e
theorem kx_set_mem : ∀ {lv : List (Nat × Value)} {i : Nat} {v : Value} {q : Nat × Value}, kx_on lv = true → q ∈ kx_set lv i v → q = (i, v) ∨ (q ∈ lv ∧ q.1 ≠ i)
  | [], i, v, q, _, h => Or.inl (List.mem_singleton.mp h)
  | x :: r, i, v, q, ho, h => by
    unfold kx_on at ho
    rw [Bool.and_eq_true] at ho
    unfold kx_set at h
    cases hb : Nat.beq x.1 i with
    | true =>
      rw [hb] at h
      rcases List.mem_cons.mp h with h | h
      · exact Or.inl h
      · refine Or.inr ⟨List.mem_cons_of_mem _ h, fun e => ?_⟩
        have e1 : x.1 = i := Nat.eq_of_beq_eq_true hb
        have hn : kx_lk r x.1 = none := Option.isNone_iff_eq_none.mp ho.1
        rw [e1, ← e] at hn
        exact kx_lk_none hn q h rfl
    | false =>
      rw [hb] at h
      rcases List.mem_cons.mp h with h | h
      · subst h
        exact Or.inr ⟨List.mem_cons_self, fun e => by rw [e, Nat.beq_refl] at hb; cases hb⟩
      · rcases kx_set_mem ho.2 h with h | h
        · exact Or.inl h
        · exact Or.inr ⟨List.mem_cons_of_mem _ h.1, h.2⟩
theorem kx_nl_spec : ∀ {lv : List (Nat × Value)} {i : Nat}, kx_nl lv i = true → ∀ q ∈ lv, q.1 + 1 = i → q.2.category = 1
  | [], _, _, q, hq, _ => by cases hq
  | x :: r, i, h, q, hq, e => by
    unfold kx_nl at h
    rw [Bool.and_eq_true] at h
    rcases List.mem_cons.mp hq with hq | hq
    · subst hq
      have h1 := h.1
      rw [e, Nat.beq_refl] at h1
      exact Nat.eq_of_beq_eq_true h1
    · exact kx_nl_spec h.2 q hq e
theorem kx_set_has {ls : Array Slot} {n i : Nat} {v : Value} {lv : List (Nat × Value)} (hs : kx_nl lv i = true) (ho : kx_on lv = true) (hl : lv_has ls n ((i, v) :: lv.filter (fun q => !(q.1 == i) && !(q.1 + 1 == i && q.2.category == 2)))) : lv_has ls n (kx_set lv i v) := by
  refine ⟨hl.1, hl.2.1, fun q hq => hl.2.2 q ?_⟩
  rcases kx_set_mem ho hq with h | ⟨h, hne⟩
  · rw [h]; exact List.mem_cons_self
  · refine List.mem_cons_of_mem _ (List.mem_filter.mpr ⟨h, ?_⟩)
    simp only [Bool.and_eq_true, Bool.not_eq_true', beq_eq_false_iff_ne, ne_eq, Bool.and_eq_false_iff]
    refine ⟨hne, ?_⟩
    by_cases e : q.1 + 1 = i
    · right
      rw [kx_nl_spec hs q h e]
      decide
    · left; exact e
theorem kx_Wd.ls {Y : kx_Y} {D : va_G} {κ : Nat → ClassId} {A : Nat → Prop} {s : State} {H : Heap} {locs : List Loc} {ls ls' : Array Slot} {lv lv' : List (Nat × Value)} {N : Nat} {h : kx_H} (w : kx_Wd Y D κ A s H locs ls lv N h) (h' : lv_has ls' Y.2.2.1 lv') : kx_Wd Y D κ A s H locs ls' lv' N h := ⟨w.1, w.2.1, w.2.2.1, w.2.2.2.1, h'⟩
/-- only these places, in this order -/
theorem ko_keep (kk : List Nat) {lv' : List (Nat × Value)} (e : kx_keep lv kk = lv') (k : kx_Ok Y d kc ks G cs ss pc lv' st N h res) : kx_Ok Y d kc ks G cs ss pc lv st N h res := by
  intro p l e0 R s m args below meth c D κ A Z H locs ls hC hW hF
  refine k p l e0 R s m args below meth c D κ A Z H locs ls hC (hW.ls ⟨hW.2.2.2.2.1, hW.2.2.2.2.2.1, fun q hq => ?_⟩) hF
  rw [← e] at hq
  obtain ⟨j, -, hj⟩ := List.mem_filterMap.mp hq
  cases hv : kx_lk lv j with
  | none => rw [hv] at hj; cases hj
  | some v =>
    rw [hv] at hj
    cases hj
    exact kx_lk_at hW.2.2.2.2 hv
theorem ko_iload_n {j : Fin 4} {i : Nat} {x : Int32} (hdg : decode Y.2.1 pc = .ok (.iload_n j, 1)) (hi : (j : Nat) = i) (hx : kx_lk lv i = some (.int x)) (k : kx_Ok Y d kc ks G cs ss (pc + 1) lv (.int x :: st) N h res) : kx_Ok Y d kc ks G cs ss pc lv (st) N h res := by
  intro p l e R s m args below meth c D κ A Z H locs ls hC hW hF
  exact lv_iload_n hC.1 hC.2.1 hdg hi (kx_lk_at hW.2.2.2.2 hx) (k p l e R s m args below meth c D κ A Z H locs ls hC hW hF)
theorem ko_iload {i : Nat} {x : Int32} (hdg : decode Y.2.1 pc = .ok (.iload i, 2)) (hx : kx_lk lv i = some (.int x)) (k : kx_Ok Y d kc ks G cs ss (pc + 2) lv (.int x :: st) N h res) : kx_Ok Y d kc ks G cs ss pc lv (st) N h res := by
  intro p l e R s m args below meth c D κ A Z H locs ls hC hW hF
  exact lv_iload hC.1 hC.2.1 hdg (kx_lk_at hW.2.2.2.2 hx) (k p l e R s m args below meth c D κ A Z H locs ls hC hW hF)
theorem ko_lload_n {j : Fin 4} {i : Nat} {x : Int64} (hdg : decode Y.2.1 pc = .ok (.lload_n j, 1)) (hi : (j : Nat) = i) (hx : kx_lk lv i = some (.long x)) (k : kx_Ok Y d kc ks G cs ss (pc + 1) lv (.long x :: st) N h res) : kx_Ok Y d kc ks G cs ss pc lv (st) N h res := by
  intro p l e R s m args below meth c D κ A Z H locs ls hC hW hF
  exact lv_lload_n hC.1 hC.2.1 hdg hi (kx_lk_at hW.2.2.2.2 hx) (k p l e R s m args below meth c D κ A Z H locs ls hC hW hF)
theorem ko_lload {i : Nat} {x : Int64} (hdg : decode Y.2.1 pc = .ok (.lload i, 2)) (hx : kx_lk lv i = some (.long x)) (k : kx_Ok Y d kc ks G cs ss (pc + 2) lv (.long x :: st) N h res) : kx_Ok Y d kc ks G cs ss pc lv (st) N h res := by
  intro p l e R s m args below meth c D κ A Z H locs ls hC hW hF
  exact lv_lload hC.1 hC.2.1 hdg (kx_lk_at hW.2.2.2.2 hx) (k p l e R s m args below meth c D κ A Z H locs ls hC hW hF)
theorem ko_aload_n {j : Fin 4} {i : Nat} {x : Nat} (hdg : decode Y.2.1 pc = .ok (.aload_n j, 1)) (hi : (j : Nat) = i) (hx : kx_lk lv i = some (.ref x)) (k : kx_Ok Y d kc ks G cs ss (pc + 1) lv (.ref x :: st) N h res) : kx_Ok Y d kc ks G cs ss pc lv (st) N h res := by
  intro p l e R s m args below meth c D κ A Z H locs ls hC hW hF
  exact lv_aload_n hC.1 hC.2.1 hdg hi (kx_lk_at hW.2.2.2.2 hx) (k p l e R s m args below meth c D κ A Z H locs ls hC hW hF)
theorem ko_aload {i : Nat} {x : Nat} (hdg : decode Y.2.1 pc = .ok (.aload i, 2)) (hx : kx_lk lv i = some (.ref x)) (k : kx_Ok Y d kc ks G cs ss (pc + 2) lv (.ref x :: st) N h res) : kx_Ok Y d kc ks G cs ss pc lv (st) N h res := by
  intro p l e R s m args below meth c D κ A Z H locs ls hC hW hF
  exact lv_aload hC.1 hC.2.1 hdg (kx_lk_at hW.2.2.2.2 hx) (k p l e R s m args below meth c D κ A Z H locs ls hC hW hF)
theorem ko_istore_n {j : Fin 4} {i : Nat} {x : Int32} {lv' : List (Nat × Value)} (hdg : decode Y.2.1 pc = .ok (.istore_n j, 1)) (hi : (j : Nat) = i) (hb : i < Y.2.2.1) (hs : kx_nl lv i = true) (ho : kx_on lv = true) (he : kx_set lv i (.int x) = lv') (k : kx_Ok Y d kc ks G cs ss (pc + 1) lv' st N h res) : kx_Ok Y d kc ks G cs ss pc lv (.int x :: st) N h res := by
  intro p l e R s m args below meth c D κ A Z H locs ls hC hW hF
  exact lv_istore_n hC.1 hC.2.1 hdg hi hW.2.2.2.2 hb rfl (fun ls' hl => k p l e R s m args below meth c D κ A Z H locs ls' hC (hW.ls (he ▸ kx_set_has hs ho hl)) hF)
theorem ko_istore {i : Nat} {x : Int32} {lv' : List (Nat × Value)} (hdg : decode Y.2.1 pc = .ok (.istore i, 2)) (hb : i < Y.2.2.1) (hs : kx_nl lv i = true) (ho : kx_on lv = true) (he : kx_set lv i (.int x) = lv') (k : kx_Ok Y d kc ks G cs ss (pc + 2) lv' st N h res) : kx_Ok Y d kc ks G cs ss pc lv (.int x :: st) N h res := by
  intro p l e R s m args below meth c D κ A Z H locs ls hC hW hF
  exact lv_istore hC.1 hC.2.1 hdg hW.2.2.2.2 hb rfl (fun ls' hl => k p l e R s m args below meth c D κ A Z H locs ls' hC (hW.ls (he ▸ kx_set_has hs ho hl)) hF)
theorem ko_astore_n {j : Fin 4} {i : Nat} {x : Nat} {lv' : List (Nat × Value)} (hdg : decode Y.2.1 pc = .ok (.astore_n j, 1)) (hi : (j : Nat) = i) (hb : i < Y.2.2.1) (hs : kx_nl lv i = true) (ho : kx_on lv = true) (he : kx_set lv i (.ref x) = lv') (k : kx_Ok Y d kc ks G cs ss (pc + 1) lv' st N h res) : kx_Ok Y d kc ks G cs ss pc lv (.ref x :: st) N h res := by
  intro p l e R s m args below meth c D κ A Z H locs ls hC hW hF
  exact lv_astore_n hC.1 hC.2.1 hdg hi hW.2.2.2.2 hb rfl (fun ls' hl => k p l e R s m args below meth c D κ A Z H locs ls' hC (hW.ls (he ▸ kx_set_has hs ho hl)) hF)
theorem ko_astore {i : Nat} {x : Nat} {lv' : List (Nat × Value)} (hdg : decode Y.2.1 pc = .ok (.astore i, 2)) (hb : i < Y.2.2.1) (hs : kx_nl lv i = true) (ho : kx_on lv = true) (he : kx_set lv i (.ref x) = lv') (k : kx_Ok Y d kc ks G cs ss (pc + 2) lv' st N h res) : kx_Ok Y d kc ks G cs ss pc lv (.ref x :: st) N h res := by
  intro p l e R s m args below meth c D κ A Z H locs ls hC hW hF
  exact lv_astore hC.1 hC.2.1 hdg hW.2.2.2.2 hb rfl (fun ls' hl => k p l e R s m args below meth c D κ A Z H locs ls' hC (hW.ls (he ▸ kx_set_has hs ho hl)) hF)
theorem ko_lstore_n {j : Fin 4} {i : Nat} {x : Int64} {lv' : List (Nat × Value)} (hdg : decode Y.2.1 pc = .ok (.lstore_n j, 1)) (hi : (j : Nat) = i) (hb : i + 1 < Y.2.2.1) (he : (i, Value.long x) :: lv.filter (fun q => !(q.1 == i) && (!(q.1 == i + 1) && !(q.1 + 1 == i && q.2.category == 2))) = lv') (k : kx_Ok Y d kc ks G cs ss (pc + 1) lv' st N h res) : kx_Ok Y d kc ks G cs ss pc lv (.long x :: st) N h res := by
  intro p l e R s m args below meth c D κ A Z H locs ls hC hW hF
  exact lv_lstore_n hC.1 hC.2.1 hdg hi hW.2.2.2.2 hb he (fun ls' hl => k p l e R s m args below meth c D κ A Z H locs ls' hC (hW.ls hl) hF)
theorem ko_iinc {i : Nat} {n : Int} {x v : Int32} {lv' : List (Nat × Value)} (hdg : decode Y.2.1 pc = .ok (.iinc i n, 3)) (hx : kx_lk lv i = some (.int x)) (hv : x + Int32.ofInt n = v) (hb : i < Y.2.2.1) (hs : kx_nl lv i = true) (ho : kx_on lv = true) (he : kx_set lv i (.int v) = lv') (k : kx_Ok Y d kc ks G cs ss (pc + 3) lv' st N h res) : kx_Ok Y d kc ks G cs ss pc lv st N h res := by
  intro p l e R s m args below meth c D κ A Z H locs ls hC hW hF
  obtain ⟨j, hj⟩ := List.getElem?_of_mem (kx_lk_mem hx)
  exact lv_iinc hC.1 hC.2.1 hdg hW.2.2.2.2 hj hv hb rfl (fun ls' hl => k p l e R s m args below meth c D κ A Z H locs ls' hC (hW.ls (he ▸ kx_set_has hs ho hl)) hF)
theorem ko_if_eq {x : Int32} {off : Int} {tgt : Nat} (hdg : decode Y.2.1 pc = .ok (.ifCond .eq off, 3)) (ht : (pc : Int) + off = (tgt : Int)) (kt : x = 0 → kx_Ok Y d kc ks G cs ss tgt lv st N h res) (kf : ¬ x = 0 → kx_Ok Y d kc ks G cs ss (pc + 3) lv st N h res) : kx_Ok Y d kc ks G cs ss pc lv (.int x :: st) N h res := by
  intro p l e R s m args below meth c D κ A Z H locs ls hC hW hF
  exact lv_if_eq hC.1 hC.2.1 hdg ht (fun z => kt z p l e R s m args below meth c D κ A Z H locs ls hC hW hF) (fun z => kf z p l e R s m args below meth c D κ A Z H locs ls hC hW hF)
theorem ko_icmp_eq {x y : Int32} {off : Int} {tgt : Nat} (hdg : decode Y.2.1 pc = .ok (.if_icmp .eq off, 3)) (ht : (pc : Int) + off = (tgt : Int)) (kt : x = y → kx_Ok Y d kc ks G cs ss tgt lv st N h res) (kf : ¬ x = y → kx_Ok Y d kc ks G cs ss (pc + 3) lv st N h res) : kx_Ok Y d kc ks G cs ss pc lv (.int y :: .int x :: st) N h res := by
  intro p l e R s m args below meth c D κ A Z H locs ls hC hW hF
  exact lv_icmp_eq hC.1 hC.2.1 hdg ht (fun z => kt z p l e R s m args below meth c D κ A Z H locs ls hC hW hF) (fun z => kf z p l e R s m args below meth c D κ A Z H locs ls hC hW hF)
theorem ko_if_ne {x : Int32} {off : Int} {tgt : Nat} (hdg : decode Y.2.1 pc = .ok (.ifCond .ne off, 3)) (ht : (pc : Int) + off = (tgt : Int)) (kt : ¬ x = 0 → kx_Ok Y d kc ks G cs ss tgt lv st N h res) (kf : x = 0 → kx_Ok Y d kc ks G cs ss (pc + 3) lv st N h res) : kx_Ok Y d kc ks G cs ss pc lv (.int x :: st) N h res := by
  intro p l e R s m args below meth c D κ A Z H locs ls hC hW hF
  exact lv_if_ne hC.1 hC.2.1 hdg ht (fun z => kt z p l e R s m args below meth c D κ A Z H locs ls hC hW hF) (fun z => kf z p l e R s m args below meth c D κ A Z H locs ls hC hW hF)
theorem ko_icmp_ne {x y : Int32} {off : Int} {tgt : Nat} (hdg : decode Y.2.1 pc = .ok (.if_icmp .ne off, 3)) (ht : (pc : Int) + off = (tgt : Int)) (kt : ¬ x = y → kx_Ok Y d kc ks G cs ss tgt lv st N h res) (kf : x = y → kx_Ok Y d kc ks G cs ss (pc + 3) lv st N h res) : kx_Ok Y d kc ks G cs ss pc lv (.int y :: .int x :: st) N h res := by
  intro p l e R s m args below meth c D κ A Z H locs ls hC hW hF
  exact lv_icmp_ne hC.1 hC.2.1 hdg ht (fun z => kt z p l e R s m args below meth c D κ A Z H locs ls hC hW hF) (fun z => kf z p l e R s m args below meth c D κ A Z H locs ls hC hW hF)
theorem ko_if_lt {x : Int32} {off : Int} {tgt : Nat} (hdg : decode Y.2.1 pc = .ok (.ifCond .lt off, 3)) (ht : (pc : Int) + off = (tgt : Int)) (kt : x < 0 → kx_Ok Y d kc ks G cs ss tgt lv st N h res) (kf : ¬ x < 0 → kx_Ok Y d kc ks G cs ss (pc + 3) lv st N h res) : kx_Ok Y d kc ks G cs ss pc lv (.int x :: st) N h res := by
  intro p l e R s m args below meth c D κ A Z H locs ls hC hW hF
  exact lv_if_lt hC.1 hC.2.1 hdg ht (fun z => kt z p l e R s m args below meth c D κ A Z H locs ls hC hW hF) (fun z => kf z p l e R s m args below meth c D κ A Z H locs ls hC hW hF)
theorem ko_icmp_lt {x y : Int32} {off : Int} {tgt : Nat} (hdg : decode Y.2.1 pc = .ok (.if_icmp .lt off, 3)) (ht : (pc : Int) + off = (tgt : Int)) (kt : x < y → kx_Ok Y d kc ks G cs ss tgt lv st N h res) (kf : ¬ x < y → kx_Ok Y d kc ks G cs ss (pc + 3) lv st N h res) : kx_Ok Y d kc ks G cs ss pc lv (.int y :: .int x :: st) N h res := by
  intro p l e R s m args below meth c D κ A Z H locs ls hC hW hF
  exact lv_icmp_lt hC.1 hC.2.1 hdg ht (fun z => kt z p l e R s m args below meth c D κ A Z H locs ls hC hW hF) (fun z => kf z p l e R s m args below meth c D κ A Z H locs ls hC hW hF)
theorem ko_if_ge {x : Int32} {off : Int} {tgt : Nat} (hdg : decode Y.2.1 pc = .ok (.ifCond .ge off, 3)) (ht : (pc : Int) + off = (tgt : Int)) (kt : 0 ≤ x → kx_Ok Y d kc ks G cs ss tgt lv st N h res) (kf : ¬ 0 ≤ x → kx_Ok Y d kc ks G cs ss (pc + 3) lv st N h res) : kx_Ok Y d kc ks G cs ss pc lv (.int x :: st) N h res := by
  intro p l e R s m args below meth c D κ A Z H locs ls hC hW hF
  exact lv_if_ge hC.1 hC.2.1 hdg ht (fun z => kt z p l e R s m args below meth c D κ A Z H locs ls hC hW hF) (fun z => kf z p l e R s m args below meth c D κ A Z H locs ls hC hW hF)
theorem ko_icmp_ge {x y : Int32} {off : Int} {tgt : Nat} (hdg : decode Y.2.1 pc = .ok (.if_icmp .ge off, 3)) (ht : (pc : Int) + off = (tgt : Int)) (kt : y ≤ x → kx_Ok Y d kc ks G cs ss tgt lv st N h res) (kf : ¬ y ≤ x → kx_Ok Y d kc ks G cs ss (pc + 3) lv st N h res) : kx_Ok Y d kc ks G cs ss pc lv (.int y :: .int x :: st) N h res := by
  intro p l e R s m args below meth c D κ A Z H locs ls hC hW hF
  exact lv_icmp_ge hC.1 hC.2.1 hdg ht (fun z => kt z p l e R s m args below meth c D κ A Z H locs ls hC hW hF) (fun z => kf z p l e R s m args below meth c D κ A Z H locs ls hC hW hF)
theorem ko_if_gt {x : Int32} {off : Int} {tgt : Nat} (hdg : decode Y.2.1 pc = .ok (.ifCond .gt off, 3)) (ht : (pc : Int) + off = (tgt : Int)) (kt : 0 < x → kx_Ok Y d kc ks G cs ss tgt lv st N h res) (kf : ¬ 0 < x → kx_Ok Y d kc ks G cs ss (pc + 3) lv st N h res) : kx_Ok Y d kc ks G cs ss pc lv (.int x :: st) N h res := by
  intro p l e R s m args below meth c D κ A Z H locs ls hC hW hF
  exact lv_if_gt hC.1 hC.2.1 hdg ht (fun z => kt z p l e R s m args below meth c D κ A Z H locs ls hC hW hF) (fun z => kf z p l e R s m args below meth c D κ A Z H locs ls hC hW hF)
theorem ko_icmp_gt {x y : Int32} {off : Int} {tgt : Nat} (hdg : decode Y.2.1 pc = .ok (.if_icmp .gt off, 3)) (ht : (pc : Int) + off = (tgt : Int)) (kt : y < x → kx_Ok Y d kc ks G cs ss tgt lv st N h res) (kf : ¬ y < x → kx_Ok Y d kc ks G cs ss (pc + 3) lv st N h res) : kx_Ok Y d kc ks G cs ss pc lv (.int y :: .int x :: st) N h res := by
  intro p l e R s m args below meth c D κ A Z H locs ls hC hW hF
  exact lv_icmp_gt hC.1 hC.2.1 hdg ht (fun z => kt z p l e R s m args below meth c D κ A Z H locs ls hC hW hF) (fun z => kf z p l e R s m args below meth c D κ A Z H locs ls hC hW hF)
theorem ko_if_le {x : Int32} {off : Int} {tgt : Nat} (hdg : decode Y.2.1 pc = .ok (.ifCond .le off, 3)) (ht : (pc : Int) + off = (tgt : Int)) (kt : x ≤ 0 → kx_Ok Y d kc ks G cs ss tgt lv st N h res) (kf : ¬ x ≤ 0 → kx_Ok Y d kc ks G cs ss (pc + 3) lv st N h res) : kx_Ok Y d kc ks G cs ss pc lv (.int x :: st) N h res := by
  intro p l e R s m args below meth c D κ A Z H locs ls hC hW hF
  exact lv_if_le hC.1 hC.2.1 hdg ht (fun z => kt z p l e R s m args below meth c D κ A Z H locs ls hC hW hF) (fun z => kf z p l e R s m args below meth c D κ A Z H locs ls hC hW hF)
theorem ko_icmp_le {x y : Int32} {off : Int} {tgt : Nat} (hdg : decode Y.2.1 pc = .ok (.if_icmp .le off, 3)) (ht : (pc : Int) + off = (tgt : Int)) (kt : x ≤ y → kx_Ok Y d kc ks G cs ss tgt lv st N h res) (kf : ¬ x ≤ y → kx_Ok Y d kc ks G cs ss (pc + 3) lv st N h res) : kx_Ok Y d kc ks G cs ss pc lv (.int y :: .int x :: st) N h res := by
  intro p l e R s m args below meth c D κ A Z H locs ls hC hW hF
  exact lv_icmp_le hC.1 hC.2.1 hdg ht (fun z => kt z p l e R s m args below meth c D κ A Z H locs ls hC hW hF) (fun z => kf z p l e R s m args below meth c D κ A Z H locs ls hC hW hF)
theorem ko_lcmp {x y : Int64} (hdg : decode Y.2.1 pc = .ok (.lcmp, 1)) (k : kx_Ok Y d kc ks G cs ss (pc + 1) lv (.int (lg_cmp x y) :: st) N h res) : kx_Ok Y d kc ks G cs ss pc lv (.long y :: .long x :: st) N h res := by
  intro p l e R s m args below meth c D κ A Z H locs ls hC hW hF
  exact W.lcmp hC.1 hC.2.1 hdg (k p l e R s m args below meth c D κ A Z H locs ls hC hW hF)
theorem ko_tableOut {dflt lo hi : Int} {offs : Array Int} {len tgt : Nat} {x : Int32} (hdg : decode Y.2.1 pc = .ok (.tableswitch dflt lo hi offs, len)) (hx : x.toInt < lo ∨ hi < x.toInt) (ht : (pc : Int) + dflt = (tgt : Int)) (k : kx_Ok Y d kc ks G cs ss tgt lv st N h res) : kx_Ok Y d kc ks G cs ss pc lv (.int x :: st) N h res := by
  intro p l e R s m args below meth c D κ A Z H locs ls hC hW hF
  exact lv_tableOut hC.1 hC.2.1 hdg hx ht (k p l e R s m args below meth c D κ A Z H locs ls hC hW hF)
theorem ko_tableIn {dflt lo hi : Int} {offs : Array Int} {len tgt : Nat} {x : Int32} {off : Int} (hdg : decode Y.2.1 pc = .ok (.tableswitch dflt lo hi offs, len)) (h1 : ¬ x.toInt < lo) (h2 : ¬ hi < x.toInt) (hof : offs[(x.toInt - lo).toNat]? = some off) (ht : (pc : Int) + off = (tgt : Int)) (k : kx_Ok Y d kc ks G cs ss tgt lv st N h res) : kx_Ok Y d kc ks G cs ss pc lv (.int x :: st) N h res := by
  intro p l e R s m args below meth c D κ A Z H locs ls hC hW hF
  exact lv_tableIn hC.1 hC.2.1 hdg h1 h2 hof ht (k p l e R s m args below meth c D κ A Z H locs ls hC hW hF)
theorem ko_iret {v : Int32} (hdg : decode Y.2.1 pc = .ok (.ireturn, 1)) (hr : Y.2.2.2 = some .int) (h1 : cs ≤ kc) (h2 : ss ≤ ks) (he : res = (some (.int v), N, h)) : kx_Ok Y d kc ks G cs ss pc lv [.int v] N h res := by
  intro p l e R s m args below meth c D κ A Z H locs ls hC hW hF
  subst he
  have hdg' : decode Y.2.1 pc = .ok (kx_rop Y.2.2.2, 1) := by rw [hr]; exact hdg
  have hfit : kx_fit Y.2.2.2 (some (.int v)) := by rw [hr]; exact trivial
  exact W.widen h1 h2 (hF H locs ls pc hW.1 hW.2.1 hW.2.2.1 hW.2.2.2.1 hdg' hfit)
theorem ko_zret {v : Int32} (hdg : decode Y.2.1 pc = .ok (.ireturn, 1)) (hr : Y.2.2.2 = some .boolean) (hz : narrow .boolean (.int v) = .int v) (h1 : cs ≤ kc) (h2 : ss ≤ ks) (he : res = (some (.int v), N, h)) : kx_Ok Y d kc ks G cs ss pc lv [.int v] N h res := by
  intro p l e R s m args below meth c D κ A Z H locs ls hC hW hF
  subst he
  have hdg' : decode Y.2.1 pc = .ok (kx_rop Y.2.2.2, 1) := by rw [hr]; exact hdg
  have hfit : kx_fit Y.2.2.2 (some (.int v)) := by rw [hr]; exact hz
  exact W.widen h1 h2 (hF H locs ls pc hW.1 hW.2.1 hW.2.2.1 hW.2.2.2.1 hdg' hfit)
theorem ko_lret {v : Int64} (hdg : decode Y.2.1 pc = .ok (.lreturn, 1)) (hr : Y.2.2.2 = some .long) (h1 : cs ≤ kc) (h2 : ss ≤ ks) (he : res = (some (.long v), N, h)) : kx_Ok Y d kc ks G cs ss pc lv [.long v] N h res := by
  intro p l e R s m args below meth c D κ A Z H locs ls hC hW hF
  subst he
  have hdg' : decode Y.2.1 pc = .ok (kx_rop Y.2.2.2, 1) := by rw [hr]; exact hdg
  have hfit : kx_fit Y.2.2.2 (some (.long v)) := by rw [hr]; exact trivial
  exact W.widen h1 h2 (hF H locs ls pc hW.1 hW.2.1 hW.2.2.1 hW.2.2.2.1 hdg' hfit)
theorem ko_vret (hdg : decode Y.2.1 pc = .ok (.return_, 1)) (hr : Y.2.2.2 = none) (h1 : cs ≤ kc) (h2 : ss ≤ ks) (he : res = (none, N, h)) : kx_Ok Y d kc ks G cs ss pc lv [] N h res := by
  intro p l e R s m args below meth c D κ A Z H locs ls hC hW hF
  subst he
  have hdg' : decode Y.2.1 pc = .ok (kx_rop Y.2.2.2, 1) := by rw [hr]; exact hdg
  have hfit : kx_fit Y.2.2.2 (none) := by rw [hr]; exact trivial
  exact W.widen h1 h2 (hF H locs ls pc hW.1 hW.2.1 hW.2.2.1 hW.2.2.2.1 hdg' hfit)
end KO
