/-! my own logic over the kit's: an abstract heap (next address, cells), a method's run as AW, a method's promise as Sp -/
abbrev Hp : Type := Nat × (Nat → Option va_E)
def hp_up (h : Hp) (a : Nat) (e : va_E) : Hp := (h.1, fun j => if j = a then some e else h.2 j)
def hp_new (h : Hp) (e : va_E) : Hp := (h.1 + 1, fun j => if j = h.1 then some e else h.2 j)
/-- what stays the same through the whole run: classes and slots, the heap below, the array classes, the String constants -/
abbrev zG : Type := va_G × Heap × (ClassId × ClassId × ClassId) × (Nat → Nat) × (Nat → Nat)
def zb (g : zG) : Nat := g.2.1.size
def zR (g : zG) (h : Hp) (H : Heap) : Prop := H.size = h.1 ∧ zb g ≤ h.1 ∧ (∀ q, q < zb g → H[q]? = g.2.1[q]?) ∧ ∀ a e, h.2 a = some e → zb g ≤ a ∧ va_at g.1 vwCl (a, e) H
def zNF : List (String × Nat × String × String × String × String) := [("LowWater$Cave", 115, "LowWater$Row", "items", "[I", "LowWater"), ("LowWater", 66, "LowWater$Row", "size", "I", "LowWater"), ("LowWater$Cave", 73, "LowWater$Row", "size", "I", "LowWater"), ("LowWater$Orders", 86, "LowWater$State", "hour", "I", "LowWater"), ("LowWater", 137, "LowWater$State", "hour", "I", "LowWater"), ("LowWater", 70, "LowWater$State", "caves", "I", "LowWater"), ("LowWater", 107, "LowWater$State", "readerCount", "I", "LowWater"), ("LowWater", 80, "LowWater$State", "cave", "LLowWater$Cave;", "LowWater"), ("LowWater$Orders", 79, "LowWater$State", "cave", "LLowWater$Cave;", "LowWater"), ("LowWater", 110, "LowWater$State", "readers", "[LLowWater$Reader;", "LowWater"), ("LowWater", 55, "LowWater$State", "tape", "LLowWater$Row;", "LowWater"), ("LowWater", 87, "LowWater$State", "shelves", "LLowWater$Row;", "LowWater"), ("LowWater$Orders", 83, "LowWater$State", "shelves", "LLowWater$Row;", "LowWater"), ("LowWater", 90, "LowWater$State", "lines", "LLowWater$Row;", "LowWater"), ("LowWater$Orders", 68, "LowWater$State", "lines", "LLowWater$Row;", "LowWater"), ("LowWater", 171, "LowWater$State", "asks", "LLowWater$Row;", "LowWater"), ("LowWater", 198, "LowWater$State", "seen", "LLowWater$Row;", "LowWater"), ("LowWater", 204, "LowWater$State", "tales", "LLowWater$Row;", "LowWater")]
def zNM : List (String × Nat × MethodName × String) := [("LowWater", 11, ⟨"LowWater$State", "<init>", "()V"⟩, "LowWater"), ("LowWater$State", 23, ⟨"LowWater$Cave", "<init>", "()V"⟩, "LowWater"), ("LowWater", 27, ⟨"LowWater$Cave", "<init>", "()V"⟩, "LowWater"), ("LowWater", 43, ⟨"LowWater$Orders", "<init>", "()V"⟩, "LowWater"), ("LowWater", 157, ⟨"LowWater$Orders", "goOn", "(LLowWater$Orders;III)V"⟩, "LowWater")]
def zN (U : State) : Prop := (∀ q ∈ zNF, va_Nw (.fieldLinkNest q.1 q.2.1 q.2.2.1 q.2.2.2.1 q.2.2.2.2.1 q.2.2.2.2.2) U) ∧ ∀ q ∈ zNM, va_Nw (.methodLinkNest q.1 q.2.1 q.2.2.1 q.2.2.2) U
def zLen : List Nat := [6, 4, 5, 3, 3]
def zByt : List (List Int32) := [[115, 119, 101, 108, 108, 32], [101, 98, 98, 32], [119, 97, 118, 101, 32], [104, 100, 109], [60, 61, 62]]
def zSR : List (String × Nat × String × Nat) := [("LowWater$Cave", 84, "swell ", 0), ("LowWater$Cave", 86, "ebb ", 1), ("LowWater$Cave", 88, "wave ", 2), ("LowWaterModel", 108, "swell ", 0), ("LowWaterModel", 114, "ebb ", 1), ("LowWaterModel", 116, "wave ", 2), ("LowWaterModel", 90, "hdm", 3), ("LowWaterModel", 96, "<=>", 4)]
def zStr (g : zG) (U : State) : Prop := vk_S 5 zLen zByt g.2.2.2.1 g.2.2.2.2 (fun q => zb g ≤ q) U g.2.1 ∧ (∀ q ∈ zSR, vk_R q.1 q.2.1 q.2.2.1 (g.2.2.2.1 q.2.2.2) U) ∧ va_Z "java/lang/String" "COMPACT_STRINGS" "Z" (.int 1) (fun q => zb g ≤ q) U g.2.1 ∧ va_Zq "jdk/internal/util/Preconditions" "SIOOBE_FORMATTER" "Ljava/util/function/BiFunction;" (fun q => zb g ≤ q) U g.2.1
def zK (g : zG) (U : State) : Prop := va_K g.1 vwCl [(g.2.2.1.1, .int), (g.2.2.1.2.1, .boolean), (g.2.2.1.2.2, .object "LowWater$Reader")] U ∧ zN U ∧ zStr g U ∧ va_AO "LowWater$Reader" U
theorem zK.same {g : zG} {u U : State} (hv : u.vm = U.vm) (h : zK g u) : zK g U := by
  obtain ⟨h1, ⟨h2, h3⟩, ⟨h4, h5, h6, h7⟩, h8⟩ := h
  have ha : u.vm.Alike U.vm := by rw [hv]; exact Vm.Alike.refl _
  exact ⟨h1.moved ha, ⟨fun q hq => (h2 q hq).same rfl hv, fun q hq => (h3 q hq).same rfl hv⟩, ⟨h4.moved ha, fun q hq => vk_R.same hv.symm (h5 q hq), h6.moved ha, h7.moved ha⟩, h8.moved ha⟩
theorem zK.warm {g : zG} {s U : State} (hW : s.WarmedH U.vm) (h : zK g s) : zK g U := by
  obtain ⟨h1, ⟨h2, h3⟩, ⟨h4, h5, h6, h7⟩, h8⟩ := h
  have ha : s.vm.Alike U.vm := hW.alike
  exact ⟨h1.moved ha, ⟨fun q hq => va_Nw.warmF hW (h2 q hq), fun q hq => va_Nw.warmM hW (h3 q hq)⟩, ⟨h4.moved ha, fun q hq => vk_R.warm hW (h5 q hq), h6.moved ha, h7.moved ha⟩, h8.moved ha⟩
abbrev zX : Type := (Program × Launch × Env) × (State × MethodId × Array Value) × (List Frame × Method × Code) × zG × Room
abbrev zXg (X : zX) : zG := X.2.2.2.1
abbrev zXr (X : zX) : Room := X.2.2.2.2
def zB (X : zX) (cc : ByteArray) (nL : Nat) (own nm : String) (ret : Option FieldType) : Prop :=
  X.1.1.tables.exec = Jvm.exec ∧ X.2.2.1.2.2.code = cc ∧ X.2.2.1.2.2.maxLocals = nL ∧ X.2.1.1.vm.findClass own = some X.2.1.2.1.cls ∧ (∀ w ∈ zT, w.before X.2.1.2.2 X.2.1.1 = true) ∧ zK (zXg X) X.2.1.1 ∧ X.2.2.1.2.1.sig.returnType = ret ∧ X.2.2.1.2.1.locks = false ∧ X.2.2.1.2.1.name = nm
/-- locals: by their places, none where nothing is said -/
def zA : Nat → List (Option Value) → List (Nat × Value)
  | _, [] => []
  | i, none :: t => zA (i + 1) t
  | i, some v :: t => (i, v) :: zA (i + 1) t
theorem zA_mem {lv : List (Option Value)} : ∀ {i : Nat} {q : Nat × Value}, q ∈ zA i lv ↔ i ≤ q.1 ∧ lv[q.1 - i]? = some (some q.2) := by
  induction lv with
  | nil => intro i q; simp [zA]
  | cons x t ih =>
    intro i q
    have hs : ∀ (y : Option Value), (i ≤ q.1 ∧ (y :: t)[q.1 - i]? = some (some q.2)) ↔ ((q.1 = i ∧ y = some q.2) ∨ (i + 1 ≤ q.1 ∧ t[q.1 - (i + 1)]? = some (some q.2))) := by
      intro y
      constructor
      · rintro ⟨h1, h2⟩
        rcases Nat.eq_or_lt_of_le h1 with h | h
        · left
          rw [← h] at h2
          simp at h2
          exact ⟨h.symm, h2⟩
        · right
          refine ⟨h, ?_⟩
          rw [show q.1 - i = (q.1 - (i + 1)) + 1 by omega] at h2
          simpa using h2
      · rintro (⟨h1, h2⟩ | ⟨h1, h2⟩)
        · refine ⟨by omega, ?_⟩
          rw [h1, Nat.sub_self]
          simp [h2]
        · refine ⟨by omega, ?_⟩
          rw [show q.1 - i = (q.1 - (i + 1)) + 1 by omega]
          simpa using h2
    rw [hs x]
    cases x with
    | none =>
      rw [show zA i (none :: t) = zA (i + 1) t from rfl, ih]
      simp
    | some v =>
      rw [show zA i (some v :: t) = (i, v) :: zA (i + 1) t from rfl, List.mem_cons, ih]
      constructor
      · rintro (h | h)
        · exact Or.inl ⟨by rw [h], by rw [h]⟩
        · exact Or.inr h
      · rintro (⟨h1, h2⟩ | h)
        · left
          cases h2
          rw [← h1]
        · exact Or.inr h
def zL (ls : Array Slot) (nL : Nat) (lv : List (Option Value)) : Prop := lv.length = nL ∧ lv_has ls nL (zA 0 lv)
theorem zL.at {ls : Array Slot} {nL : Nat} {lv : List (Option Value)} (h : zL ls nL lv) {k : Nat} {v : Value} (hk : lv[k]? = some (some v)) : ls[k]? = some (.val v) :=
  h.2.2.2 (k, v) (zA_mem.mpr ⟨Nat.zero_le _, by simpa using hk⟩)
theorem zL.size {ls : Array Slot} {nL : Nat} {lv : List (Option Value)} (h : zL ls nL lv) : ls.size = nL := h.2.1
/-- is the place ahead of k no long's first half -/
def zok (lv : List (Option Value)) : Nat → Bool
  | 0 => true
  | k + 1 => match lv[k]? with
    | some (some v) => v.category == 1
    | _ => true
theorem zL.set1 {ls ls' : Array Slot} {nL k : Nat} {v : Value} {lv : List (Option Value)} (h : zL ls nL lv) (hn : k < nL) (hz : zok lv k = true)
    (h' : lv_has ls' nL ((k, v) :: (zA 0 lv).filter (fun q => !(q.1 == k) && !(q.1 + 1 == k && q.2.category == 2)))) : zL ls' nL (lv.set k (some v)) := by
  refine ⟨by rw [List.length_set]; exact h.1, h'.1, h'.2.1, fun q hq => h'.2.2 q ?_⟩
  obtain ⟨-, h2⟩ := zA_mem.mp hq
  rw [Nat.sub_zero] at h2
  by_cases hk : q.1 = k
  · rw [hk, List.getElem?_set_self (by rw [h.1]; exact hn)] at h2
    have : q = (k, v) := by
      cases q; simp at hk h2; rw [hk, h2]
    rw [this]
    exact List.mem_cons_self
  · rw [List.getElem?_set_ne (Ne.symm hk)] at h2
    refine List.mem_cons_of_mem _ (List.mem_filter.mpr ⟨zA_mem.mpr ⟨Nat.zero_le _, by simpa using h2⟩, ?_⟩)
    simp only [Bool.and_eq_true, Bool.not_eq_true', beq_eq_false_iff_ne, ne_eq, Bool.and_eq_false_iff]
    refine ⟨hk, ?_⟩
    by_cases h3 : q.1 + 1 = k
    · right
      subst h3
      simp only [zok, h2] at hz
      have := beq_iff_eq.mp hz
      omega
    · exact Or.inl h3
theorem zL.set2 {ls ls' : Array Slot} {nL k : Nat} {v : Value} {lv : List (Option Value)} (h : zL ls nL lv) (hn : k + 1 < nL) (hz : zok lv k = true)
    (h' : lv_has ls' nL ((k, v) :: (zA 0 lv).filter (fun q => !(q.1 == k) && (!(q.1 == k + 1) && !(q.1 + 1 == k && q.2.category == 2))))) : zL ls' nL ((lv.set k (some v)).set (k + 1) none) := by
  refine ⟨by rw [List.length_set, List.length_set]; exact h.1, h'.1, h'.2.1, fun q hq => h'.2.2 q ?_⟩
  obtain ⟨-, h2⟩ := zA_mem.mp hq
  rw [Nat.sub_zero] at h2
  have hk1 : ¬ q.1 = k + 1 := by
    intro e
    rw [e, List.getElem?_set_self (by rw [List.length_set, h.1]; exact hn)] at h2
    cases h2
  rw [List.getElem?_set_ne (Ne.symm hk1)] at h2
  by_cases hk : q.1 = k
  · rw [hk, List.getElem?_set_self (by rw [h.1]; omega)] at h2
    have : q = (k, v) := by
      cases q; simp at hk h2; rw [hk, h2]
    rw [this]
    exact List.mem_cons_self
  · rw [List.getElem?_set_ne (Ne.symm hk)] at h2
    refine List.mem_cons_of_mem _ (List.mem_filter.mpr ⟨zA_mem.mpr ⟨Nat.zero_le _, by simpa using h2⟩, ?_⟩)
    simp only [Bool.and_eq_true, Bool.not_eq_true', beq_eq_false_iff_ne, ne_eq, Bool.and_eq_false_iff]
    refine ⟨hk, hk1, ?_⟩
    by_cases h3 : q.1 + 1 = k
    · right
      subst h3
      simp only [zok, h2] at hz
      have := beq_iff_eq.mp hz
      omega
    · exact Or.inl h3
def zQ (g : zG) (Ko : Option Value → Hp → Prop) : Array Value → State → Outcome → State → Prop := fun _ _ o t => ∃ (v : Option Value) (h' : Hp), o = .returned v ∧ Ko v h' ∧ zR g h' t.heap
def zW (X : zX) (H : Heap) (locs : List Loc) (cells slots : Nat) (Ko : Option Value → Hp → Prop) (k n : Nat) (f : JFrame) : Prop :=
  W X.1.1 X.1.2.1 X.1.2.2 X.2.2.2.2 X.2.1.1 X.2.1.2.1 X.2.1.2.2 X.2.2.1.1 X.2.2.1.2.1 X.2.2.1.2.2 H locs cells slots (MQ X.2.2.1.1 (zQ X.2.2.2.1 Ko) X.2.1.2.2 X.2.1.1 k n (fun q => zb X.2.2.2.1 ≤ q)) f
/-- from pc on, with these locals, stack and heap, and rc cells, rs slots still to be made: the method comes to its end with Ko -/
def AW (X : zX) (rc rs pc : Nat) (lv : List (Option Value)) (st : List Value) (h : Hp) (Ko : Option Value → Hp → Prop) : Prop :=
  ∀ (H : Heap) (locs : List Loc) (ls : Array Slot) (cells slots : Nat), zR X.2.2.2.1 h H → (∀ q ∈ locs, zb X.2.2.2.1 ≤ q.base) → zL ls X.2.2.1.2.2.maxLocals lv → cells + rc ≤ X.2.2.2.2.cells → slots + rs ≤ X.2.2.2.2.slots →
    zW X H locs cells slots Ko X.2.2.2.2.cells X.2.2.2.2.slots (F0 X.2.1.2.1 pc ls st)
def Sp (l : Launch) (g : zG) (y : MethodName) (cc : ByteArray) (maxL : Nat) (ret : Option FieldType) (rm : Room) (av : List Value) (h : Hp) (Ko : Option Value → Hp → Prop) : Prop :=
  Met l y (Cond.code y cc maxL ret :: zT) rm (va_Pc av (fun U => zR g h U.heap ∧ zK g U)) (zQ g Ko) rm.cells rm.slots (fun q => zb g ≤ q)
theorem Sp.of {l : Launch} {g : zG} {y : MethodName} {cc : ByteArray} {maxL : Nat} {ret : Option FieldType} {rm : Room} {av : List Value} {h : Hp} {Ko : Option Value → Hp → Prop} (lv : List (Option Value)) (hy : plainName y.cls = true) (hlen : (lg_sl av).length ≤ maxL) (hlv : zA 0 lv = lv_args 0 av) (hl : lv.length = maxL)
    (body : ∀ X : zX, zXg X = g → zXr X = rm → X.1.2.1 = l → zB X cc maxL y.cls y.name ret → AW X rm.cells rm.slots 0 lv [] h Ko) : Sp l g y cc maxL ret rm av h Ko := by
  unfold Sp
  refine Met.ofW (cc := cc) (maxL := maxL) (ret := ret) hy rfl ?_
  intro p e s m args below meth c s₁ B hml hv
  obtain ⟨rfl, hR, hK⟩ := hv
  have hts := atoms_spec (ws := Cond.code y cc maxL ret :: zT) B.pre
  have hb := body ((p, l, e), (s, m, av.toArray), (below, meth, c), g, rm) rfl rfl rfl
    ⟨B.exec, B.bytes, hml, findClass_of_methodNamed B.named, fun w hw => hts w (List.mem_cons_of_mem _ hw), hK, B.returns, B.notSynchronized, (name_of_methodNamed B.named B.method).1⟩
  rw [lg_entry_eq]
  have he := lv_entry av (n := maxL) hlen
  exact hb s.heap [] _ 0 0 hR (fun _ h => by cases h) ⟨hl.trans hml.symm, by rw [hlv]; show lv_has _ c.maxLocals _; rw [hml]; exact he⟩ (by show 0 + rm.cells ≤ rm.cells; omega) (by show 0 + rm.slots ≤ rm.slots; omega)
theorem zPc_blind {g : zG} {h : Hp} {av : List Value} : FrameBlind (va_Pc av (fun U => zR g h U.heap ∧ zK g U)) := fun _ U g' mk q => ⟨q.1, q.2.1, zK.same (u := U) rfl q.2.2⟩
