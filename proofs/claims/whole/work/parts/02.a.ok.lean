/-! ===== my own judgement over the machine: a heap as a partial function of real addresses, answers told ahead ===== -/
abbrev kx_Y : Type := MethodName × ByteArray × Nat × Option FieldType
abbrev kx_H : Type := Nat → Option va_E
abbrev kx_G : Type := Nat × (Nat → Option (Nat × (Nat → Int32)))
abbrev kx_R : Type := Option Value × Nat × kx_H
def kx_tbl : List Cond := lw_tbl.filter goodWord
theorem kx_in {w : Cond} (h : w ∈ lw_tbl) (hg : goodWord w = true) : w ∈ kx_tbl := List.mem_filter.mpr ⟨h, hg⟩
theorem kx_good : ∀ w ∈ kx_tbl, (w.onTables && w.keeps) = true ∨ ∃ ty, w = .arrayClass ty := fun w h => good_of_word (List.mem_filter.mp h).2
def kx_re (κ : Nat → ClassId) (e : va_E) : va_E := match e with
  | .inl q => .inl (κ q.1, q.2)
  | .inr o => .inr o
def kx_Hold (D : va_G) (κ : Nat → ClassId) (h : kx_H) (H : Heap) : Prop := ∀ (a : Nat) (e : va_E), h a = some e → va_at D vwCl (a, kx_re κ e) H
abbrev kx_tys (κ : Nat → ClassId) : List (ClassId × FieldType) := [(κ 0, .int), (κ 1, .boolean), (κ 2, .object RX2)]
def kx_St (G : kx_G) (A : Nat → Prop) (U : State) (H : Heap) : Prop := va_Z "BorrowedTears" "FACTORIALS" "[I" (.ref G.1) A U H ∧ ∀ (a L : Nat) (f : Nat → Int32), G.2 a = some (L, f) → va_T .int a L (fun j => .int (f j)) A U H
/-- what the tables say that words of a method can't carry -/
def kx_X (nst : List Cond) (U : State) : Prop := va_AO RX2 U ∧ ∀ w ∈ nst, va_Nw w U
def kx_up (h : kx_H) (a : Nat) (e : va_E) : kx_H := fun q => if q = a then some e else h q
def kx_dom (h : kx_H) (N : Nat) : Nat → Prop := fun q => h q ≠ none ∨ N ≤ q
def kx_rop : Option FieldType → Instr
  | none => .return_
  | some .long => .lreturn
  | some _ => .ireturn
def kx_fit : Option FieldType → Option Value → Prop
  | none, none => True
  | some .int, some (.int _) => True
  | some .boolean, some (.int v) => narrow .boolean (.int v) = .int v
  | some .long, some (.long _) => True
  | _, _ => False
def kx_C (Y : kx_Y) (d kc ks : Nat) (G : kx_G) (D : va_G) (κ : Nat → ClassId) (A : Nat → Prop) (p : Program) (R : Room) (s : State) (m : MethodId) (args : Array Value) (meth : Method) (c : Code) : Prop :=
  p.tables.exec = Jvm.exec ∧ c.code = Y.2.1 ∧ meth.sig.returnType = Y.2.2.2 ∧ c.maxLocals = Y.2.2.1 ∧ s.vm.findClass Y.1.cls = some m.cls ∧ (∀ w ∈ kx_tbl, w.before args s = true) ∧ meth.locks = false ∧ (Y.1.name = "<init>" → meth.name = "<init>") ∧ (d ≤ R.frames ∧ 40 * d ≤ R.locals ∧ kc ≤ R.cells ∧ ks ≤ R.slots) ∧ va_K D vwCl (kx_tys κ) s ∧ kx_St G A s s.heap ∧ (∀ q : Nat, s.heap.size ≤ q → A q) ∧ kx_X kx_nst s
def kx_Wd (Y : kx_Y) (D : va_G) (κ : Nat → ClassId) (A : Nat → Prop) (s : State) (H : Heap) (locs : List Loc) (ls : Array Slot) (lv : List (Nat × Value)) (N : Nat) (h : kx_H) : Prop :=
  H.size = N ∧ kx_Hold D κ h H ∧ (∀ a e, h a = some e → A a) ∧ va_S A s.heap H locs ∧ lv_has ls Y.2.2.1 lv
def kx_F (Y : kx_Y) (D : va_G) (κ : Nat → ClassId) (A : Nat → Prop) (kc ks : Nat) (p : Program) (l : Launch) (e : Env) (R : Room) (s : State) (m : MethodId) (args : Array Value) (below : List Frame) (meth : Method) (c : Code) (Z : State → Prop) (res : kx_R) : Prop :=
  ∀ (H : Heap) (locs : List Loc) (ls : Array Slot) (pc : Nat), H.size = res.2.1 → kx_Hold D κ res.2.2 H → (∀ a e, res.2.2 a = some e → A a) → va_S A s.heap H locs → decode Y.2.1 pc = .ok (kx_rop Y.2.2.2, 1) → kx_fit Y.2.2.2 res.1 → W p l e R s m args below meth c H locs kc ks Z (F0 m pc ls res.1.toList)
/-- from here the method comes to its end, with this answer, this heap -/
def kx_Ok (Y : kx_Y) (d kc ks : Nat) (G : kx_G) (cs ss pc : Nat) (lv : List (Nat × Value)) (st : List Value) (N : Nat) (h : kx_H) (res : kx_R) : Prop :=
  ∀ (p : Program) (l : Launch) (e : Env) (R : Room) (s : State) (m : MethodId) (args : Array Value) (below : List Frame) (meth : Method) (c : Code) (D : va_G) (κ : Nat → ClassId) (A : Nat → Prop) (Z : State → Prop) (H : Heap) (locs : List Loc) (ls : Array Slot),
    kx_C Y d kc ks G D κ A p R s m args meth c → kx_Wd Y D κ A s H locs ls lv N h → kx_F Y D κ A kc ks p l e R s m args below meth c Z res → W p l e R s m args below meth c H locs cs ss Z (F0 m pc ls st)
abbrev kx_ws (Y : kx_Y) : List Cond := Cond.code Y.1 Y.2.1 Y.2.2.1 Y.2.2.2 :: kx_tbl
abbrev kx_rm (d kc ks : Nat) : Room := { frames := d, cells := kc, slots := ks, locals := 40 * d }
def kx_Pc (D : va_G) (κ : Nat → ClassId) (G : kx_G) (N : Nat) (h : kx_H) (U : State) : Prop := U.heap.size = N ∧ kx_Hold D κ h U.heap ∧ va_K D vwCl (kx_tys κ) U ∧ kx_St G (kx_dom h N) U U.heap ∧ kx_X kx_nst U
def kx_Q (D : va_G) (κ : Nat → ClassId) (N : Nat) (h : kx_H) (res : kx_R) : Array Value → State → Outcome → State → Prop := fun _ st oc t => oc = .returned res.1 ∧ t.heap.size = res.2.1 ∧ kx_Hold D κ res.2.2 t.heap ∧ (∀ a e, res.2.2 a = some e → kx_dom h N a) ∧ va_F (kx_dom h N) st t
/-- a method's contract: these arguments, this heap; this answer, that heap -/
def kx_Fn (Y : kx_Y) (d kc ks : Nat) (G : kx_G) (av : List Value) (N : Nat) (h : kx_H) (res : kx_R) : Prop :=
  ∀ (l : Launch) (D : va_G) (κ : Nat → ClassId), Met l Y.1 (kx_ws Y) (kx_rm d kc ks) (va_Pc av (kx_Pc D κ G N h)) (kx_Q D κ N h res) kc ks (kx_dom h N)

theorem kx_St.moved {G : kx_G} {A : Nat → Prop} {u U : State} {H : Heap} (hvm : u.vm.Alike U.vm) (h : kx_St G A u H) : kx_St G A U H := ⟨h.1.moved hvm, fun a L f e => (h.2 a L f e).moved hvm⟩
theorem kx_St.kept {G : kx_G} {A : Nat → Prop} {U : State} {H H1 : Heap} (h : kx_St G A U H) (hq : ∀ a : Nat, a < H.size → ¬ A a → H1[a]? = H[a]?) : kx_St G A U H1 := ⟨h.1.kept hq, fun a L f e => (h.2 a L f e).kept hq⟩
theorem kx_St.narrow {G : kx_G} {A B : Nat → Prop} {U : State} {H : Heap} (h : kx_St G A U H) (hAB : ∀ q, B q → A q) : kx_St G B U H := ⟨h.1.narrow hAB, fun a L f e => (h.2 a L f e).narrow hAB⟩
theorem kx_X.warm {s U : State} (hW : s.WarmedH U.vm) (h : kx_X kx_nst s) : kx_X kx_nst U := ⟨h.1.moved hW.alike, fun w hw => by
  obtain ⟨a, i, x, b, rfl⟩ := kx_nst_ok w hw
  exact va_Nw.warmM hW (h.2 _ hw)⟩
theorem kx_X.same {s U : State} (hv : s.vm = U.vm) (h : kx_X kx_nst s) : kx_X kx_nst U := ⟨va_AO.moved (by rw [hv]; exact Vm.Alike.refl _) h.1, fun w hw => by
  obtain ⟨a, i, x, b, rfl⟩ := kx_nst_ok w hw
  exact va_tabs rfl hv (h.2 _ hw)⟩
theorem kx_dom_le {h : kx_H} {N : Nat} {A : Nat → Prop} (hA : ∀ a e, h a = some e → A a) (hN : ∀ q, N ≤ q → A q) : ∀ q, kx_dom h N q → A q := by
  intro q hq
  rcases hq with hq | hq
  · cases he : h q with
    | none => exact absurd he hq
    | some e => exact hA q e he
  · exact hN q hq
theorem kx_Hold.lt {D : va_G} {κ : Nat → ClassId} {h : kx_H} {H : Heap} (hH : kx_Hold D κ h H) {a : Nat} {e : va_E} (he : h a = some e) : a < H.size := (hH a e he).lt
/-- one cell of the heap, as the kit's rows read it -/
theorem kx_Hold.one {D : va_G} {κ : Nat → ClassId} {h : kx_H} {H : Heap} (hH : kx_Hold D κ h H) {a : Nat} {e : va_E} (he : h a = some e) : va_P D vwCl [(a, kx_re κ e)] H := fun k q hk => by
  cases k with
  | zero => cases hk; exact hH a e he
  | succ k => simp at hk
theorem kx_Hold.put {D : va_G} {κ : Nat → ClassId} {h : kx_H} {H H1 : Heap} (hH : kx_Hold D κ h H) {a : Nat} {e : va_E} (h1 : va_at D vwCl (a, kx_re κ e) H1) (oq : ∀ q : Nat, q ≠ a → H1[q]? = H[q]?) : kx_Hold D κ (kx_up h a e) H1 := by
  intro b e' he'
  by_cases hb : b = a
  · subst hb
    simp only [kx_up, if_true] at he'
    cases he'
    exact h1
  · simp only [kx_up, if_neg hb] at he'
    exact (hH b e' he').kept (oq b hb)
theorem kx_Wd.put {Y : kx_Y} {D : va_G} {κ : Nat → ClassId} {A : Nat → Prop} {s : State} {H H1 : Heap} {locs : List Loc} {ls : Array Slot} {lv : List (Nat × Value)} {N k : Nat} {h : kx_H} (w : kx_Wd Y D κ A s H locs ls lv N h) {a : Nat} {e0 e : va_E} (he : h a = some e0) (h1 : va_at D vwCl (a, kx_re κ e) H1) (z : H1.size = H.size) (oq : ∀ q : Nat, q ≠ a → H1[q]? = H[q]?) : kx_Wd Y D κ A s H1 (locs ++ [⟨a, k⟩]) ls lv N (kx_up h a e) := by
  obtain ⟨w1, w2, w3, w4, w5⟩ := w
  refine ⟨z.trans w1, w2.put h1 oq, fun b e' hb => ?_, w4.put z oq (w3 a e0 he), w5⟩
  by_cases hba : b = a
  · subst hba; exact w3 b e0 he
  · simp only [kx_up, if_neg hba] at hb; exact w3 b e' hb

set_option maxHeartbeats 1000000 in
theorem kx_Fn_of {Y : kx_Y} {d kc ks : Nat} {G : kx_G} {av : List Value} {lv : List (Nat × Value)} {N : Nat} {h : kx_H} {res : kx_R} (hpl : plainName Y.1.cls = true) (hlen : (lg_sl av).length ≤ Y.2.2.1) (hlv : lv_args 0 av = lv) (hok : kx_Ok Y d kc ks G 0 0 0 lv [] N h res) (hdom : ∀ a e, res.2.2 a = some e → kx_dom h N a) : kx_Fn Y d kc ks G av N h res := by
  intro l D κ
  refine Met.ofW (cc := Y.2.1) (maxL := Y.2.2.1) (ret := Y.2.2.2) hpl rfl ?_
  intro p e s m args below meth c s₁ B hml hv
  obtain ⟨rfl, hsz, hH, hK, hSt, hX⟩ := hv
  have hts := atoms_spec (ws := kx_ws Y) B.pre
  have hA : ∀ q : Nat, s.heap.size ≤ q → kx_dom h N q := fun q hq => Or.inr (by rw [← hsz]; exact hq)
  have hl := lv_entry av hlen
  rw [lg_entry_eq]
  generalize (lg_sl av ++ List.replicate (Y.2.2.1 - (lg_sl av).length) Slot.unset).toArray = ls at hl ⊢
  rw [hlv] at hl
  have hlocks := B.notSynchronized
  refine hok p l e (kx_rm d kc ks) s m av.toArray below meth c D κ (kx_dom h N) _ s.heap [] ls ⟨B.exec, B.bytes, B.returns, hml, findClass_of_methodNamed B.named, fun w hw => hts w (List.mem_cons_of_mem _ hw), B.notSynchronized, fun hn => (name_of_methodNamed B.named B.method).1.trans hn, ⟨Nat.le_refl _, Nat.le_refl _, Nat.le_refl _, Nat.le_refl _⟩, hK, hSt, hA, hX⟩ ⟨hsz, hH, fun a e' ha => Or.inl (by rw [ha]; exact fun z => by cases z), va_S.rf, hl⟩ ?_
  intro H locs ls pc z1 z2 z3 z4 hdg hfit
  have hq : ∀ t : State, t.heap = H → s.WarmedH t.vm → kx_Q D κ N h res av.toArray s (.returned res.1) t := fun t ht hW => ⟨rfl, by rw [ht]; exact z1, by rw [ht]; exact z2, hdom, z4.F ht⟩
  have hr := B.returns
  obtain ⟨y, cc, mL, rt⟩ := Y
  obtain ⟨rv, N', h'⟩ := res
  cases rt with
  | none =>
    cases rv with
    | none => exact W.vret B.exec B.bytes hr hq z4.2.2 hdg
    | some v => exact hfit.elim
  | some ty =>
    cases ty with
    | int =>
      cases rv with
      | none => exact hfit.elim
      | some v =>
        cases v with
        | int v => exact W.iret B.exec B.bytes hr hq z4.2.2 hdg
        | _ => exact hfit.elim
    | boolean =>
      cases rv with
      | none => exact hfit.elim
      | some v =>
        cases v with
        | int v => exact W.zret B.exec B.bytes hr hfit hq z4.2.2 hdg
        | _ => exact hfit.elim
    | long =>
      cases rv with
      | none => exact hfit.elim
      | some v =>
        cases v with
        | long v => exact W.lret B.exec B.bytes hr hq z4.2.2 hdg
        | _ => exact hfit.elim
    | _ => cases rv <;> exact hfit.elim
/-! ===== which rows of the tables stand behind a field access, a call ===== -/
def kx_cls (ci : Nat) (C : String) (T : u_T) (NN : Nat) : Prop := vwCl[ci]? = some (C, T, NN) ∧ (∀ w ∈ u_ws C T NN, w ∈ kx_tbl) ∧ ∃ ty : Nat → FieldType, (∀ k, k < NN → parseFieldDescriptor (T k).2.2.1 = some (ty k)) ∧ ∀ a, a < NN → ∀ b, b < NN → a ≠ b → (T a).2.1 ≠ (T b).2.1
def kx_fl (own : String) (idx ci k : Nat) (fin : Bool) (ty : FieldType) : Prop := ∃ (C : String) (T : u_T) (NN : Nat), kx_cls ci C T NN ∧ k < NN ∧ Cond.fieldLink own idx C (T k).2.1 (T k).2.2.1 ∈ kx_tbl ∧ (T k).1 = C ∧ (T k).2.2.2 = fin ∧ parseFieldDescriptor (T k).2.2.1 = some ty
def kx_lb (m : kx_Y) (n : Nat) : Prop := Cond.code m.1 m.2.1 m.2.2.1 m.2.2.2 ∈ kx_tbl ∧ Cond.initialized m.1.cls ∈ kx_tbl ∧ m.1.cls ≠ "java/lang/invoke/MethodHandle" ∧ m.1.cls ≠ "java/lang/invoke/VarHandle" ∧ (parseMethodDescriptor m.1.desc).map (fun d => d.parameters.length) = some n ∧ m.2.2.1 ≤ 21
def kx_lV (own : String) (idx : Nat) (m : kx_Y) (n : Nat) : Prop := kx_lb m n ∧ Cond.methodLink own idx m.1 ∈ kx_tbl ∧ Cond.instanceMethod m.1 ∈ kx_tbl ∧ Cond.selects m.1.cls m.1 m.1 ∈ kx_tbl
def kx_lS (own : String) (idx : Nat) (m : kx_Y) (n : Nat) : Prop := kx_lb m n ∧ Cond.methodLink own idx m.1 ∈ kx_tbl ∧ Cond.static m.1 ∈ kx_tbl
def kx_lI (own : String) (idx : Nat) (m : kx_Y) (n : Nat) : Prop := kx_lb m n ∧ Cond.methodLink own idx m.1 ∈ kx_tbl ∧ Cond.instanceMethod m.1 ∈ kx_tbl ∧ m.1.name = "<init>"
def kx_lVN (own : String) (idx : Nat) (m : kx_Y) (n : Nat) : Prop := kx_lb m n ∧ (∃ host, Cond.methodLinkNest own idx m.1 host ∈ kx_nst) ∧ Cond.instanceMethod m.1 ∈ kx_tbl ∧ Cond.selects m.1.cls m.1 m.1 ∈ kx_tbl
def kx_lSN (own : String) (idx : Nat) (m : kx_Y) (n : Nat) : Prop := kx_lb m n ∧ (∃ host, Cond.methodLinkNest own idx m.1 host ∈ kx_nst) ∧ Cond.static m.1 ∈ kx_tbl
def kx_lIN (own : String) (idx : Nat) (m : kx_Y) (n : Nat) : Prop := kx_lb m n ∧ (∃ host, Cond.methodLinkNest own idx m.1 host ∈ kx_nst) ∧ Cond.instanceMethod m.1 ∈ kx_tbl ∧ m.1.name = "<init>"
