/-! THE FLAT MEMORY: every cell of the class's and the reference's objects has a name (kind, group, place); a memory says what int lies in which slot of which cell; references are fixed by the names, but a few that a slot's int names. -/
abbrev Mem : Type := Nat → Nat → Nat → Nat → Int32
def up (Y : Mem) (k g o j : Nat) (v : Int32) : Mem := fun k' g' o' j' => if k' = k ∧ g' = g ∧ o' = o ∧ j' = j then v else Y k' g' o' j'
def upR (Y : Mem) (k g o : Nat) (f : Nat → Int32) : Mem := fun k' g' o' => if k' = k ∧ g' = g ∧ o' = o then f else Y k' g' o'
theorem up_eq (Y : Mem) (k g o j : Nat) (v : Int32) : up Y k g o j v = upR Y k g o (upd (Y k g o) j v) := by
  funext k' g' o' j'
  unfold up upR upd
  by_cases h : k' = k ∧ g' = g ∧ o' = o
  · obtain ⟨rfl, rfl, rfl⟩ := h
    simp
  · have h2 : ¬ (k' = k ∧ g' = g ∧ o' = o ∧ j' = j) := fun q => h ⟨q.1, q.2.1, q.2.2.1⟩
    simp [h, h2]
theorem upR_at (Y : Mem) (k g o : Nat) (f : Nat → Int32) : upR Y k g o f k g o = f := by simp [upR]
theorem upR_ne (Y : Mem) {k g o k' g' o' : Nat} (f : Nat → Int32) (h : ¬ (k' = k ∧ g' = g ∧ o' = o)) : upR Y k g o f k' g' o' = Y k' g' o' := by simp [upR, h]
def ncap (g : Nat) : Nat := if g % 2 = 0 then 4 else 14
def tcap (g : Nat) : Nat := if g = 0 then 700 else 125
def cmdr (ad : Nat → Nat → Nat → Nat) (x : Int32) : Option Nat := if x = 0 then none else some (ad 20 (x.toNatClampNeg - 1) 0)
def cell (T : Nat → ClassId) (ad : Nat → Nat → Nat → Nat) (k g o : Nat) (y : Nat → Int32) : va_E :=
  if k = 0 then (if o = 0 then .inr (11, [.ref (ad 5 0 0), .ref (ad 5 1 0), .ref (ad 6 0 0), .ref (ad 7 0 0), .ref (ad 8 0 0), .ref (ad 1 0 0), .ref (ad 1 1 0), .ref (ad 9 0 0), .ref (ad 0 0 1), .ref (ad 0 0 2), .ref (ad 3 (y 10).toNatClampNeg 0)])
    else if o = 1 then .inl (T 3, 2, .inr (.inr (.inr (.inr (fun i => some (ad 2 (8 + i) 0))))))
    else .inl (T 2, 2, .inl y))
  else if k = 1 then (if o = 0 then .inr (3, [.ref (ad 3 (y 0).toNatClampNeg 0), .ref (ad 2 g 0), .ref (ad 1 g 1), .ref (ad 1 g 2), .ref (ad 1 g 3)])
    else .inl (T 0, 14, .inl y))
  else if k = 2 then (if o = 0 then .inr (8, [.int (y 0), .int (y 1), .int (y 2), .int (y 3), .int (y 4), .int (y 5), .int (y 6), .int (y 7), .int (y 8), .ref (ad 2 g 1), .ref (ad 2 g 2), .ref (ad 2 g 3), .ref (ad 2 g 4), .ref (ad 2 g 5), .ref (ad 2 g 6)])
    else .inl (T 0, 14, .inl y))
  else if k = 3 then (if o = 0 then .inr (5, [.int (y 0), .int (y 1), .int (y 2), .int (y 3), .ref (ad 4 (2 * g) 0), .ref (ad 3 g 1), .ref (ad 3 g 2), .ref (ad 4 (2 * g + 1) 0), .ref (ad 3 g 3), .ref (ad 3 g 4), .ref (ad 3 g 5), .ref (ad 3 g 6), .ref (ad 3 g 7), .ref (ad 3 g 8), .ref (ad 3 g 9), .int (y 15), .int (y 16)])
    else if o = 6 then .inl (T 5, 14, .inr (.inr (.inr (.inr (fun i => some (ad 3 g (20 + i)))))))
    else if 20 ≤ o then .inl (T 0, 4, .inl y)
    else if o < 3 then .inl (T 0, 4, .inl y)
    else .inl (T 0, 14, .inl y))
  else if k = 4 then (if o = 0 then .inr (4, [.ref (ad 4 g 1), .ref (ad 4 g 2), .int (y 2)])
    else if o = 1 then .inl (T 4, ncap g, .inr (.inr (.inr (.inr (fun i => some (ad 4 g (10 + i)))))))
    else if o = 2 then .inl (T 0, ncap g, .inl y)
    else .inl (T 1, 6, .inl y))
  else if k = 5 then (if o = 0 then .inr (9, [.ref (ad 5 g 1), .int (y 1)])
    else .inl (T 1, tcap g, .inl y))
  else if k = 6 then .inr (10, [.ref (ad 5 0 0), .int (y 1), .int (y 2), .int (y 3), .int (y 4), .int (y 5)])
  else if k = 7 then .inr (7, [.ref (ad 6 0 0)])
  else if k = 8 then (if o = 0 then .inr (6, [.ref (ad 6 0 0), .ref (ad 8 0 1), .ref (ad 8 0 2), .ref (ad 8 0 3), .int (y 4)])
    else if o = 1 then .inl (T 6, 30, .inr (.inr (.inr (.inr (fun i => cmdr ad (y i))))))
    else .inl (T 0, 30, .inl y))
  else if k = 9 then (if o = 0 then .inr (2, [.ref (ad 9 0 1), .int (y 1), .int (y 2)])
    else .inl (T 3, 6, .inr (.inr (.inr (.inr (fun i => some (ad 2 (2 + i) 0)))))))
  else if k = 12 then (if o = 0 then .inr (12, [.ref (ad 0 0 0), .int (y 1), .int (y 2), .ref (ad 12 0 1), .ref (ad 12 0 2), .ref (ad 12 0 3), .ref (ad 12 0 4), .int (y 7), .int (y 8), .int (y 9), .int (y 10), .int (y 11)])
    else .inl (T 0, 14, .inl y))
  else if k = 15 then .inr (0, [.ref (ad 16 0 0), .int 0, .int 0, .int 0])
  else if k = 16 then .inl (T 1, (y 100000).toNatClampNeg, .inl y)
  else .inl (T 2, 14, .inl y)
def offs (k g : Nat) : List Nat :=
  if k = 0 then [0, 1, 2] else if k = 1 then [0, 1, 2, 3] else if k = 2 then [0, 1, 2, 3, 4, 5, 6]
  else if k = 3 then [0, 1, 2, 3, 4, 5, 6, 7, 8, 9] ++ (List.range 14).map (20 + ·)
  else if k = 4 then [0, 1, 2] ++ (List.range (ncap g)).map (10 + ·)
  else if k = 5 then [0, 1] else if k = 6 then [0] else if k = 7 then [0] else if k = 8 then [0, 1, 2, 3] else if k = 9 then [0, 1]
  else if k = 12 then [0, 1, 2, 3, 4] else [0]
def keys (gr : List (Nat × Nat)) : List (Nat × Nat × Nat) := gr.flatMap fun q => (offs q.1 q.2).map fun o => (q.1, q.2, o)
def wC (T : Nat → ClassId) (gr : List (Nat × Nat)) (ad : Nat → Nat → Nat → Nat) (Y : Mem) : va_W := (keys gr).map fun c => (ad c.1 c.2.1 c.2.2, cell T ad c.1 c.2.1 c.2.2 (Y c.1 c.2.1 c.2.2))
theorem keys_at {gr : List (Nat × Nat)} {k g o : Nat} (hg : (k, g) ∈ gr) (ho : o ∈ offs k g) : ∃ q0 : Nat, (keys gr)[q0]? = some (k, g, o) :=
  List.getElem?_of_mem (List.mem_flatMap.mpr ⟨(k, g), hg, List.mem_map.mpr ⟨o, ho, rfl⟩⟩)
theorem wC_key {T : Nat → ClassId} {gr : List (Nat × Nat)} {ad : Nat → Nat → Nat → Nat} {Y : Mem} {q0 k g o : Nat} (h : (keys gr)[q0]? = some (k, g, o)) : (wC T gr ad Y)[q0]? = some (ad k g o, cell T ad k g o (Y k g o)) := by
  simp [wC, h]
theorem wC_set {T : Nat → ClassId} {gr : List (Nat × Nat)} {ad : Nat → Nat → Nat → Nat} {Y : Mem} {A : Nat → Prop} (hD : va_D A (wC T gr ad Y)) {q0 k g o : Nat} (h : (keys gr)[q0]? = some (k, g, o)) (f : Nat → Int32) :
    (wC T gr ad Y).set q0 (ad k g o, cell T ad k g o f) = wC T gr ad (upR Y k g o f) := by
  apply List.ext_getElem?
  intro i
  rw [List.getElem?_set]
  have hq0 := wC_key (T := T) (ad := ad) (Y := Y) h
  by_cases e : q0 = i
  · subst e
    have hlt : q0 < (wC T gr ad Y).length := (List.getElem?_eq_some_iff.mp hq0).1
    rw [if_pos rfl, if_pos hlt, wC_key (T := T) (ad := ad) (Y := upR Y k g o f) h, upR_at]
  · rw [if_neg e]
    cases hk : (keys gr)[i]? with
    | none => simp [wC, hk]
    | some c =>
      obtain ⟨k', g', o'⟩ := c
      rw [wC_key (T := T) (ad := ad) (Y := Y) hk, wC_key (T := T) (ad := ad) (Y := upR Y k g o f) hk]
      by_cases h2 : k' = k ∧ g' = g ∧ o' = o
      · obtain ⟨rfl, rfl, rfl⟩ := h2
        exact absurd (hD.1 q0 i _ _ hq0 (wC_key (T := T) (ad := ad) (Y := Y) hk) rfl) e
      · rw [upR_ne Y f h2]
theorem wC_addr {T : Nat → ClassId} {gr : List (Nat × Nat)} {ad : Nat → Nat → Nat → Nat} {Y Y' : Mem} {i : Nat} {q : Nat × va_E} (h : (wC T gr ad Y')[i]? = some q) : ∃ e, (wC T gr ad Y)[i]? = some (q.1, e) := by
  cases hk : (keys gr)[i]? with
  | none => simp [wC, hk] at h
  | some c =>
    obtain ⟨k', g', o'⟩ := c
    rw [wC_key (T := T) (ad := ad) (Y := Y') hk] at h
    cases h
    exact ⟨_, wC_key (T := T) (ad := ad) (Y := Y) hk⟩
theorem wC_D {T : Nat → ClassId} {gr : List (Nat × Nat)} {ad : Nat → Nat → Nat → Nat} {Y : Mem} {A : Nat → Prop} (hD : va_D A (wC T gr ad Y)) (Y' : Mem) : va_D A (wC T gr ad Y') := by
  refine ⟨fun i j p q hi hj e => ?_, fun k q hk => ?_⟩
  · obtain ⟨e1, h1⟩ := wC_addr (Y := Y) hi
    obtain ⟨e2, h2⟩ := wC_addr (Y := Y) hj
    exact hD.1 i j _ _ h1 h2 e
  · obtain ⟨e1, h1⟩ := wC_addr (Y := Y) hk
    exact hD.2 k (q.1, e1) h1
/-- the array classes, by number -/
def ftys (T : Nat → ClassId) : List (ClassId × FieldType) := [(T 0, .int), (T 1, .byte), (T 2, .boolean), (T 3, .object RX8), (T 4, .array .byte), (T 5, .array .int), (T 6, .object RX1)]
/-! WHAT LIES BELOW THE LAW'S OWN THINGS: the string constants, the enum's constants, the switch map, three statics of the JDK. -/
def sByt (i : Nat) : List Int32 := ([[114, 101, 99, 105, 112, 101, 32, 49, 32, 50, 32, 52, 32, 57, 59, 112, 97, 110, 32, 112, 111, 116, 32, 50, 59, 112, 97, 110, 32, 98, 111, 119, 108, 32, 50, 59, 115, 116, 101, 112, 32, 99, 117, 116, 32, 51, 32, 49, 32, 105, 110, 32, 98, 111, 119, 108, 59, 115, 116, 101, 112, 32, 98, 111, 105, 108, 32, 53, 32, 50, 32, 105, 110, 32, 112, 111, 116, 32, 97, 108, 111, 110, 101, 32, 97, 102, 116, 101, 114, 32, 99, 117, 116, 59, 115, 116, 101, 112, 32, 102, 114, 121, 32, 50, 32, 51, 32, 105, 110, 32, 112, 111, 116, 32, 104, 111, 116, 59, 115, 116, 101, 112, 32, 109, 105, 120, 32, 50, 32, 49, 32, 105, 110, 32, 98, 111, 119, 108, 32, 97, 102, 116, 101, 114, 32, 98, 111, 105, 108, 32, 102, 114, 121, 59, 115, 116, 101, 112, 32, 114, 101, 115, 116, 32, 52, 32, 48, 32, 97, 108, 111, 110, 101, 32, 97, 102, 116, 101, 114, 32, 109, 105, 120, 59], [114, 101, 99, 105, 112, 101], [112, 97, 110], [115, 116, 101, 112], [105, 110], [104, 111, 116], [97, 108, 111, 110, 101], [97, 102, 116, 101, 114], [114, 101, 99, 105, 112, 101, 32], [112, 97, 110, 32, 112], [115, 116, 101, 112, 32, 115], [32, 105, 110, 32, 112], [32, 104, 111, 116], [], [32, 97, 108, 111, 110, 101], [32, 97, 102, 116, 101, 114, 32, 115], [32, 115]] : List (List Int32)).getD i []
/-- class, entry, text, number of every string constant -/
def sTab : List (String × Nat × String × Nat) := [("RecipeScheduler", 27, "recipe 1 2 4 9;pan pot 2;pan bowl 2;step cut 3 1 in bowl;step boil 5 2 in pot alone after cut;step fry 2 3 in pot hot;step mix 2 1 in bowl after boil fry;step rest 4 0 alone after mix;", 0), ("RecipeScheduler$SetupReader", 45, "recipe", 1), ("RecipeScheduler$SetupReader", 29, "pan", 2), ("RecipeScheduler$SetupReader", 100, "step", 3), ("RecipeScheduler$SetupReader", 127, "in", 4), ("RecipeScheduler$SetupReader", 112, "hot", 5), ("RecipeScheduler$SetupReader", 116, "alone", 6), ("RecipeScheduler$SetupReader", 120, "after", 7), ("RecipeScheduler", 440, "the text has an error", 17), ("RecipeScheduler", 296, "no such number of minutes", 18), ("RecipeScheduler", 339, "the current minute would be too late", 19), ("RecipeScheduler", 426, "no such step", 20), ("RecipeScheduler", 431, "no such pan type", 21), ("RecipeScheduler", 111, "no such length", 22), ("RecipeScheduler", 98, "the input buffer would be too long", 23), ("RecipeSchedulerLaw", 40, "recipe ", 8), ("RecipeSchedulerLaw", 51, "pan p", 9), ("RecipeSchedulerLaw", 57, "step s", 10), ("RecipeSchedulerLaw", 59, " in p", 11), ("RecipeSchedulerLaw", 61, " hot", 12), ("RecipeSchedulerLaw", 63, "", 13), ("RecipeSchedulerLaw", 65, " alone", 14), ("RecipeSchedulerLaw", 67, " after s", 15), ("RecipeSchedulerLaw", 69, " s", 16), ("RecipeScheduler", 356, "the step is not running", 24), ("RecipeScheduler", 364, "the step cannot be discarded", 25), ("RecipeScheduler", 438, "no such number of cooks", 26), ("RecipeScheduler", 372, "no such duration", 27), ("RecipeScheduler", 348, "no such amount", 28), ("RecipeScheduler", 354, "the dish was served", 29), ("RecipeScheduler", 374, "the dish cannot be served", 30)]
def dOne (i : Nat) : Int32 := Int32.ofNat (48 + i % 10)
def dTen (i : Nat) : Int32 := Int32.ofNat (48 + i / 10)
def SStr (N0 : Nat) (ad : Nat → Nat → Nat → Nat) (s : State) (H : Heap) : Prop := ∀ i : Nat, i < 17 → va_O "java/lang/String" (ad 21 i 0) (fun q => N0 ≤ q) s H ∧ va_OF "java/lang/String" "coder" "B" (.int 0) (ad 21 i 0) (fun q => N0 ≤ q) s H ∧ va_OF "java/lang/String" "value" "[B" (.ref (ad 22 i 0)) (ad 21 i 0) (fun q => N0 ≤ q) s H ∧ va_T .byte (ad 22 i 0) (sByt i).length (fun j => .int ((sByt i).getD j 0)) (fun q => N0 ≤ q) s H
def SEnum (N0 : Nat) (ad : Nat → Nat → Nat → Nat) (s : State) (H : Heap) : Prop := ∀ i : Nat, i < 1 → va_O "RecipeScheduler$Command" (ad 20 i 0) (fun q => N0 ≤ q) s H
def SCmds (N0 : Nat) (ad : Nat → Nat → Nat → Nat) (s : State) (H : Heap) : Prop := va_Z "java/lang/Integer" "DigitOnes" "[B" (.ref (ad 24 0 0)) (fun q => N0 ≤ q) s H ∧ va_T .byte (ad 24 0 0) 100 (fun j => .int (dOne j)) (fun q => N0 ≤ q) s H
def SSw (N0 : Nat) (ad : Nat → Nat → Nat → Nat) (s : State) (H : Heap) : Prop := va_Z "java/lang/Integer" "DigitTens" "[B" (.ref (ad 25 0 0)) (fun q => N0 ≤ q) s H ∧ va_T .byte (ad 25 0 0) 100 (fun j => .int (dTen j)) (fun q => N0 ≤ q) s H
def SJdk (N0 : Nat) (ad : Nat → Nat → Nat → Nat) (s : State) (H : Heap) : Prop := va_Z "java/lang/String" "COMPACT_STRINGS" "Z" (.int 1) (fun q => N0 ≤ q) s H ∧ va_Zq "jdk/internal/util/Preconditions" "SIOOBE_FORMATTER" "Ljava/util/function/BiFunction;" (fun q => N0 ≤ q) s H ∧ vx_Zq Bundle.tN "UNASSIGNED_STACK" Bundle.steD (fun q => N0 ≤ q) s H ∧ vx_Zq Bundle.tN "SUPPRESSED_SENTINEL" Bundle.listD (fun q => N0 ≤ q) s H ∧ va_Z "RecipeScheduler$Command" "PASS" "LRecipeScheduler$Command;" (.ref (ad 20 0 0)) (fun q => N0 ≤ q) s H
def Stt (N0 : Nat) (ad : Nat → Nat → Nat → Nat) (s : State) (H : Heap) : Prop := SStr N0 ad s H ∧ (∀ r ∈ sTab, vk_R r.1 r.2.1 r.2.2.1 (ad 21 r.2.2.2 0) s) ∧ SEnum N0 ad s H ∧ SCmds N0 ad s H ∧ SSw N0 ad s H ∧ SJdk N0 ad s H
theorem SStr.moved {N0 : Nat} {ad : Nat → Nat → Nat → Nat} {u U : State} {H : Heap} (hv : u.vm.Alike U.vm) (h : SStr N0 ad u H) : SStr N0 ad U H := fun i hi => ⟨(h i hi).1.moved hv, (h i hi).2.1.moved hv, (h i hi).2.2.1.moved hv, (h i hi).2.2.2.moved hv⟩
theorem SStr.kept {N0 : Nat} {ad : Nat → Nat → Nat → Nat} {U : State} {H H1 : Heap} (h : SStr N0 ad U H) (hq : ∀ a : Nat, a < H.size → ¬ N0 ≤ a → H1[a]? = H[a]?) : SStr N0 ad U H1 := fun i hi => ⟨(h i hi).1.kept hq, (h i hi).2.1.kept hq, (h i hi).2.2.1.kept hq, (h i hi).2.2.2.kept hq⟩
theorem SEnum.moved {N0 : Nat} {ad : Nat → Nat → Nat → Nat} {u U : State} {H : Heap} (hv : u.vm.Alike U.vm) (h : SEnum N0 ad u H) : SEnum N0 ad U H := fun i hi => (h i hi).moved hv
theorem SEnum.kept {N0 : Nat} {ad : Nat → Nat → Nat → Nat} {U : State} {H H1 : Heap} (h : SEnum N0 ad U H) (hq : ∀ a : Nat, a < H.size → ¬ N0 ≤ a → H1[a]? = H[a]?) : SEnum N0 ad U H1 := fun i hi => (h i hi).kept hq
theorem Stt.moved {N0 : Nat} {ad : Nat → Nat → Nat → Nat} {u U : State} {H : Heap} (hv : u.vm.Alike U.vm) (hR : ∀ r ∈ sTab, vk_R r.1 r.2.1 r.2.2.1 (ad 21 r.2.2.2 0) U) (h : Stt N0 ad u H) : Stt N0 ad U H := by
  obtain ⟨h1, -, h3, ⟨h4, h5⟩, ⟨h6, h7⟩, h8, h9, h10, h11, h12⟩ := h
  exact ⟨h1.moved hv, hR, h3.moved hv, ⟨h4.moved hv, h5.moved hv⟩, ⟨h6.moved hv, h7.moved hv⟩, h8.moved hv, h9.moved hv, h10.moved hv, h11.moved hv, h12.moved hv⟩
theorem Stt.kept {N0 : Nat} {ad : Nat → Nat → Nat → Nat} {U : State} {H H1 : Heap} (h : Stt N0 ad U H) (hq : ∀ a : Nat, a < H.size → ¬ N0 ≤ a → H1[a]? = H[a]?) : Stt N0 ad U H1 := by
  obtain ⟨h1, hR, h3, ⟨h4, h5⟩, ⟨h6, h7⟩, h8, h9, h10, h11, h12⟩ := h
  exact ⟨h1.kept hq, hR, h3.kept hq, ⟨h4.kept hq, h5.kept hq⟩, ⟨h6.kept hq, h7.kept hq⟩, h8.kept hq, h9.kept hq, h10.kept hq, h11.kept hq, h12.kept hq⟩
theorem Stt_same {N0 : Nat} {ad : Nat → Nat → Nat → Nat} {u U : State} {H H' : Heap} (hv : u.vm = U.vm) (hh : H = H') (h : Stt N0 ad u H) : Stt N0 ad U H' := by
  subst hh
  exact h.moved (by rw [hv]; exact Vm.Alike.refl U.vm) (fun r hr => vk_R.same hv.symm (h.2.1 r hr))
theorem Stt_moved {N0 : Nat} {ad : Nat → Nat → Nat → Nat} {s U : State} {H H' : Heap} (hW : s.WarmedH U.vm) (hz : H.size ≤ H'.size) (hq : ∀ q : Nat, q < N0 → ¬ N0 ≤ q → H'[q]? = H[q]?) (h : Stt N0 ad s H) : Stt N0 ad U H' :=
  (h.kept (fun a _ h2 => hq a (Nat.not_le.mp h2) h2)).moved hW.alike (fun r hr => vk_R.warm hW (h.2.1 r hr))
