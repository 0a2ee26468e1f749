/-- a value of the picture (references are ids) as the machine has it -/
def cv (ρ : Nat → Nat) (v : Value) : Value := match v with
  | .ref i => .ref (ρ i)
  | x => x
theorem cv_cat (ρ : Nat → Nat) (v : Value) : (cv ρ v).category = v.category := by cases v <;> rfl
/-- the locals that are known, with their places -/
def lvl (ρ : Nat → Nat) : Nat → List (Option Value) → List (Nat × Value)
  | _, [] => []
  | i, none :: t => lvl ρ (i + 1) t
  | i, some v :: t => (i, cv ρ v) :: lvl ρ (i + 1) t
theorem lvl_mem (ρ : Nat → Nat) (q : Nat × Value) : ∀ (l : List (Option Value)) (i : Nat), q ∈ lvl ρ i l ↔ ∃ k v, l[k]? = some (some v) ∧ q = (i + k, cv ρ v) := by
  intro l
  induction l with
  | nil => intro i; simp [lvl]
  | cons a t ih =>
    intro i
    cases a with
    | none =>
      rw [lvl, ih]
      constructor
      · rintro ⟨k, v, h1, h2⟩
        exact ⟨k + 1, v, by simpa using h1, by rw [h2]; congr 1; omega⟩
      · rintro ⟨k, v, h1, h2⟩
        cases k with
        | zero => simp at h1
        | succ k => exact ⟨k, v, by simpa using h1, by rw [h2]; congr 1; omega⟩
    | some w =>
      rw [lvl, List.mem_cons, ih]
      constructor
      · rintro (h | ⟨k, v, h1, h2⟩)
        · exact ⟨0, w, rfl, h⟩
        · exact ⟨k + 1, v, by simpa using h1, by rw [h2]; congr 1; omega⟩
      · rintro ⟨k, v, h1, h2⟩
        cases k with
        | zero =>
          left
          simp at h1
          rw [h2, h1]; rfl
        | succ k => exact Or.inr ⟨k, v, by simpa using h1, by rw [h2]; congr 1; omega⟩
theorem lvl_get {ρ : Nat → Nat} {ls : Array Slot} {nL : Nat} {l : List (Option Value)} (h : lv_has ls nL (lvl ρ 0 l)) {i : Nat} {v : Value} (hi : l[i]? = some (some v)) : ls[i]? = some (.val (cv ρ v)) :=
  h.2.2 (i, cv ρ v) ((lvl_mem ρ _ l 0).mpr ⟨i, v, hi, by simp⟩)
def clr (l : List (Option Value)) (i : Nat) : List (Option Value) := match i with
  | 0 => l
  | k + 1 => match l[k]? with
    | some (some w) => bif w.category == 2 then l.set k none else l
    | _ => l
def st1 (l : List (Option Value)) (i : Nat) (v : Value) : List (Option Value) := (clr l i).set i (some v)
def st2 (l : List (Option Value)) (i : Nat) (v : Value) : List (Option Value) := ((clr l i).set i (some v)).set (i + 1) none
theorem clr_get {l : List (Option Value)} {i k : Nat} {v : Value} (h : (clr l i)[k]? = some (some v)) : l[k]? = some (some v) ∧ ¬ (k + 1 = i ∧ v.category = 2) := by
  unfold clr at h
  cases i with
  | zero => exact ⟨h, by omega⟩
  | succ i =>
    dsimp only at h
    split at h
    · next w hw =>
      cases hc : (w.category == 2) with
      | true =>
        rw [hc] at h
        by_cases hk : i = k
        · subst hk
          have hl := (List.getElem?_eq_some_iff.mp hw).1
          rw [cond_true, List.getElem?_set_self hl] at h
          cases h
        · rw [cond_true, List.getElem?_set_ne hk] at h
          exact ⟨h, by omega⟩
      | false =>
        rw [hc, cond_false] at h
        refine ⟨h, ?_⟩
        rintro ⟨h1, h2⟩
        have : k = i := by omega
        subst this
        rw [hw] at h
        cases h
        simp [h2] at hc
    · next hw =>
      refine ⟨h, ?_⟩
      rintro ⟨h1, h2⟩
      have : k = i := by omega
      subst this
      exact hw v h
theorem st1_has {ρ : Nat → Nat} {ls : Array Slot} {nL : Nat} {l : List (Option Value)} {i : Nat} {v : Value} (h : lv_has ls nL ((i, cv ρ v) :: (lvl ρ 0 l).filter (fun q => !(q.1 == i) && !(q.1 + 1 == i && q.2.category == 2)))) : lv_has ls nL (lvl ρ 0 (st1 l i v)) := by
  refine ⟨h.1, h.2.1, fun q hq => h.2.2 q ?_⟩
  obtain ⟨k, w, h1, h2⟩ := (lvl_mem ρ q _ 0).mp hq
  unfold st1 at h1
  by_cases hk : i = k
  · subst hk
    have : w = v := by
      by_cases hl : i < (clr l i).length
      · rw [List.getElem?_set_self hl] at h1; cases h1; rfl
      · rw [List.getElem?_eq_none (by simp; omega)] at h1; cases h1
    rw [h2, this]; simp
  · rw [List.getElem?_set_ne hk] at h1
    obtain ⟨h3, h4⟩ := clr_get h1
    refine List.mem_cons_of_mem _ (List.mem_filter.mpr ⟨(lvl_mem ρ q l 0).mpr ⟨k, w, h3, h2⟩, ?_⟩)
    rw [h2]
    simp only [Nat.zero_add, cv_cat]
    have e1 : (k == i) = false := by simp; omega
    rw [e1]
    by_cases e2 : k + 1 = i
    · have e3 : ¬ w.category = 2 := fun z => h4 ⟨e2, z⟩
      simp [e2, e3]
    · simp [e2]
theorem st2_has {ρ : Nat → Nat} {ls : Array Slot} {nL : Nat} {l : List (Option Value)} {i : Nat} {v : Value} (h : lv_has ls nL ((i, cv ρ v) :: (lvl ρ 0 l).filter (fun q => !(q.1 == i) && (!(q.1 == i + 1) && !(q.1 + 1 == i && q.2.category == 2))))) : lv_has ls nL (lvl ρ 0 (st2 l i v)) := by
  refine ⟨h.1, h.2.1, fun q hq => h.2.2 q ?_⟩
  obtain ⟨k, w, h1, h2⟩ := (lvl_mem ρ q _ 0).mp hq
  unfold st2 at h1
  by_cases hk2 : i + 1 = k
  · subst hk2
    by_cases hl : i + 1 < ((clr l i).set i (some v)).length
    · rw [List.getElem?_set_self hl] at h1; cases h1
    · rw [List.getElem?_eq_none (by simp; simp at hl; omega)] at h1; cases h1
  rw [List.getElem?_set_ne hk2] at h1
  by_cases hk : i = k
  · subst hk
    have : w = v := by
      by_cases hl : i < (clr l i).length
      · rw [List.getElem?_set_self hl] at h1; cases h1; rfl
      · rw [List.getElem?_eq_none (by simp; omega)] at h1; cases h1
    rw [h2, this]; simp
  · rw [List.getElem?_set_ne hk] at h1
    obtain ⟨h3, h4⟩ := clr_get h1
    refine List.mem_cons_of_mem _ (List.mem_filter.mpr ⟨(lvl_mem ρ q l 0).mpr ⟨k, w, h3, h2⟩, ?_⟩)
    rw [h2]
    simp only [Nat.zero_add, cv_cat]
    have e1 : (k == i) = false := by simp; omega
    have e4 : (k == i + 1) = false := by simp; omega
    rw [e1, e4]
    by_cases e2 : k + 1 = i
    · have e3 : ¬ w.category = 2 := fun z => h4 ⟨e2, z⟩
      simp [e2, e3]
    · simp [e2]
/-! the machine's side of a walk: program, launch, env, room, start, method, arguments, below, method, code -/
abbrev CX : Type := Program × Launch × Env × Room × State × MethodId × Array Value × List Frame × Method × Code
/-- addresses of the ids, array classes, classes, slots, which addresses are ours -/
abbrev GX : Type := (Nat → Nat) × (Nat → ClassId) × (Nat → ClassId) × (Nat → Nat → Nat) × (Nat → Prop)
def GG (h : AH) : Prop := oc (h.2 1) = some 0 ∧ oc (h.2 2) = some 0 ∧ oc (h.2 3) = some 1 ∧ oc (h.2 4) = some 1
def WH (G : GX) (h : AH) (H : Heap) : Prop := va_P (G.2.2.1, G.2.2.2.1) vwCl (wsw G.1 G.2.1 h) H ∧ va_D G.2.2.2.2 (wsw G.1 G.2.1 h) ∧ GG h
def WK (G : GX) (U : State) : Prop := va_K (G.2.2.1, G.2.2.2.1) vwCl (tysw G.2.1) U
/-! the String constants -/
def sT : List String := ["lake", "pond", "rain", "tide", "gate", "at"]
def sI : List Nat := [78, 83, 88, 97, 101, 51]
def sB : List (List Int32) := [[108, 97, 107, 101], [112, 111, 110, 100], [114, 97, 105, 110], [116, 105, 100, 101], [103, 97, 116, 101], [97, 116]]
def sL : List Nat := [4, 4, 4, 4, 4, 2]
def SX (G : GX) (U : State) (H : Heap) : Prop := vk_S 6 sL sB (fun i => G.1 (200 + i)) (fun i => G.1 (300 + i)) G.2.2.2.2 U H ∧ (∀ i, i < 6 → vk_R RX2 (sI.getD i 0) (sT.getD i "") (G.1 (200 + i)) U) ∧ (va_Z "java/lang/String" "COMPACT_STRINGS" "Z" (.int 1) G.2.2.2.2 U H ∧ (va_Z "jdk/internal/util/Preconditions" "SIOOBE_FORMATTER" "Ljava/util/function/BiFunction;" .null G.2.2.2.2 U H ∨ va_Z "jdk/internal/util/Preconditions" "SIOOBE_FORMATTER" "Ljava/util/function/BiFunction;" (.ref (G.1 400)) G.2.2.2.2 U H)) ∧ va_Nw (.methodLinkNest RX3 49 yX6_copyRow RX6) U ∧ va_Nw (.methodLinkNest RX5 38 yX6_copyRow RX6) U
def WP (G : GX) (h : AH) (U : State) : Prop := WH G h U.heap ∧ WK G U ∧ SX G U U.heap
def WB (G : GX) (h : AH) (U : State) : Prop := WH G h U.heap
def EX (Z : CX × GX) (nL : Nat) (Q : State → Prop) (pc : Nat) (h : AH) (lv : List (Option Value)) (st : List Value) : Prop :=
  ∀ (H : Heap) (locs : List Loc) (ls : Array Slot), WH Z.2 h H → va_S Z.2.2.2.2.2 Z.1.2.2.2.2.1.heap H locs → lv_has ls nL (lvl Z.2.1 0 lv) →
    W Z.1.1 Z.1.2.1 Z.1.2.2.1 Z.1.2.2.2.1 Z.1.2.2.2.2.1 Z.1.2.2.2.2.2.1 Z.1.2.2.2.2.2.2.1 Z.1.2.2.2.2.2.2.2.1 Z.1.2.2.2.2.2.2.2.2.1 Z.1.2.2.2.2.2.2.2.2.2 H locs 0 0 Q (F0 Z.1.2.2.2.2.2.1 pc ls (st.map (cv Z.2.1)))
def OK (Z : CX × GX) (own : String) (cc : ByteArray) (nL : Nat) (ret : Option FieldType) (fr lo : Nat) : Prop :=
  CallFix Z.1.1 Z.1.2.2.2.2.2.1 Z.1.2.2.2.2.2.2.2.2.2 cc nL Z.1.2.2.2.2.1 Z.1.2.2.2.2.2.2.1 gtbl own ∧ WK Z.2 Z.1.2.2.2.2.1 ∧ Z.1.2.2.2.1 = { frames := fr, cells := 0, slots := 0, locals := lo } ∧ Z.1.2.2.2.2.2.2.2.2.1.sig.returnType = ret ∧ Z.1.2.2.2.2.2.2.2.2.1.locks = false ∧ SX Z.2 Z.1.2.2.2.2.1 Z.1.2.2.2.2.1.heap
abbrev QI (Z : CX × GX) (post : Int32 → AH → Prop) : State → Prop := MQ Z.1.2.2.2.2.2.2.2.1 (va_Qi post (WB Z.2) Z.2.2.2.2.2) Z.1.2.2.2.2.2.2.1 Z.1.2.2.2.2.1 0 0 Z.2.2.2.2.2
abbrev QV (Z : CX × GX) (post : AH → Prop) : State → Prop := MQ Z.1.2.2.2.2.2.2.2.1 (va_Qv post (WB Z.2) Z.2.2.2.2.2) Z.1.2.2.2.2.2.2.1 Z.1.2.2.2.2.1 0 0 Z.2.2.2.2.2
/-- CONTRACTS: a method that answers an int, and one that answers nothing -/
def CI (y : MethodName) (cc : ByteArray) (nL : Nat) (ret : Option FieldType) (fr lo : Nat) (avs : List Value) (h : AH) (post : Int32 → AH → Prop) : Prop :=
  ∀ (l : Launch) (G : GX), Met l y (.code y cc nL ret :: gtbl) { frames := fr, cells := 0, slots := 0, locals := lo } (va_Pc (avs.map (cv G.1)) (WP G h)) (va_Qi post (WB G) G.2.2.2.2) 0 0 G.2.2.2.2
def CV (y : MethodName) (cc : ByteArray) (nL : Nat) (fr lo : Nat) (avs : List Value) (h : AH) (post : AH → Prop) : Prop :=
  ∀ (l : Launch) (G : GX), Met l y (.code y cc nL none :: gtbl) { frames := fr, cells := 0, slots := 0, locals := lo } (va_Pc (avs.map (cv G.1)) (WP G h)) (va_Qv post (WB G) G.2.2.2.2) 0 0 G.2.2.2.2
/-- locals at the entry -/
def le (avs : List Value) : List (Option Value) := avs.flatMap fun v => bif v.category == 2 then [some v, none] else [some v]
theorem le_args (ρ : Nat → Nat) : ∀ (avs : List Value) (i : Nat), lv_args i (avs.map (cv ρ)) = lvl ρ i (le avs) := by
  intro avs
  induction avs with
  | nil => intro i; rfl
  | cons v t ih =>
    intro i
    show (i, cv ρ v) :: lv_args (if (cv ρ v).category = 2 then i + 2 else i + 1) (t.map (cv ρ)) = lvl ρ i ((bif v.category == 2 then [some v, none] else [some v]) ++ le t)
    rw [cv_cat]
    by_cases hc : v.category = 2
    · rw [if_pos hc, ih]
      simp [hc, lvl]
    · rw [if_neg hc, ih]
      have : (v.category == 2) = false := by simp [hc]
      rw [this]
      simp [lvl]
theorem lvl_pad (ρ : Nat → Nat) : ∀ (l : List (Option Value)) (i n : Nat), lvl ρ i (l ++ List.replicate n none) = lvl ρ i l := by
  intro l
  induction l with
  | nil =>
    intro i n
    induction n generalizing i with
    | zero => rfl
    | succ n ih => exact ih (i + 1)
  | cons a t ih =>
    intro i n
    cases a with
    | none => exact ih (i + 1) n
    | some v => exact congrArg (fun z => (i, cv ρ v) :: z) (ih (i + 1) n)
theorem lgsl_len (ρ : Nat → Nat) (avs : List Value) : (lg_sl (avs.map (cv ρ))).length = (le avs).length := by
  induction avs with
  | nil => rfl
  | cons v t ih =>
    show (_ ++ lg_sl (t.map (cv ρ))).length = (_ ++ le t).length
    rw [List.length_append, List.length_append, ih]
    by_cases hc : v.category = 2
    · simp [cv_cat, hc]
    · have : (v.category == 2) = false := by simp [hc]
      simp [cv_cat, hc, this]
