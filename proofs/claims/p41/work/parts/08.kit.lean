/-! MY KIT: worlds as lists of chunks; contracts that read (kR) and contracts that change (kM, kV); rows over them -/
abbrev kG : Type := va_G × (Nat → ClassId) × (Nat → Nat)
def kT (g : kG) : List (ClassId × FieldType) := [(g.2.1 0, .byte), (g.2.1 1, .char), (g.2.1 2, .int), (g.2.1 3, .long), (g.2.1 4, .int), (g.2.1 5, .object "SpiceScale$Caravan")]
/-- the links to private members of nest mates -/
def k_nest : List Cond := [.methodLinkNest "SpiceScale" 9 yX0_init "SpiceScale", .fieldLinkNest "SpiceScale" 255 "SpiceScale$Caravan" "day" "I" "SpiceScale", .fieldLinkNest "SpiceScale$Refusal" 91 "SpiceScale$Caravan" "market" "I" "SpiceScale", .fieldLinkNest "SpiceScale" 258 "SpiceScale$Caravan" "market" "I" "SpiceScale",
  .fieldLinkNest "SpiceScale$Refusal" 117 "SpiceScale$Caravan" "coins" "I" "SpiceScale", .fieldLinkNest "SpiceScale" 261 "SpiceScale$Caravan" "coins" "I" "SpiceScale", .fieldLinkNest "SpiceScale$Refusal" 98 "SpiceScale$Caravan" "thumb" "I" "SpiceScale", .fieldLinkNest "SpiceScale" 172 "SpiceScale$Caravan" "thumb" "I" "SpiceScale",
  .fieldLinkNest "SpiceScale$Refusal" 59 "SpiceScale$Caravan" "jars" "I" "SpiceScale", .fieldLinkNest "SpiceScale" 264 "SpiceScale$Caravan" "jars" "I" "SpiceScale", .fieldLinkNest "SpiceScale$Refusal" 82 "SpiceScale$Caravan" "jarSpice" "[I" "SpiceScale", .fieldLinkNest "SpiceScale" 70 "SpiceScale$Caravan" "jarSpice" "[I" "SpiceScale",
  .fieldLinkNest "SpiceScale$Refusal" 76 "SpiceScale$Caravan" "jarGrains" "[I" "SpiceScale", .fieldLinkNest "SpiceScale" 74 "SpiceScale$Caravan" "jarGrains" "[I" "SpiceScale", .fieldLinkNest "SpiceScale$Refusal" 63 "SpiceScale$Caravan" "bags" "I" "SpiceScale", .fieldLinkNest "SpiceScale" 236 "SpiceScale$Caravan" "bags" "I" "SpiceScale",
  .fieldLinkNest "SpiceScale$Refusal" 101 "SpiceScale$Caravan" "bagTare" "[I" "SpiceScale", .fieldLinkNest "SpiceScale" 81 "SpiceScale$Caravan" "bagTare" "[I" "SpiceScale", .fieldLinkNest "SpiceScale" 84 "SpiceScale$Caravan" "bagDust" "[I" "SpiceScale", .fieldLinkNest "SpiceScale$Refusal" 79 "SpiceScale$Caravan" "bagSpice" "[I" "SpiceScale",
  .fieldLinkNest "SpiceScale" 87 "SpiceScale$Caravan" "bagSpice" "[I" "SpiceScale", .fieldLinkNest "SpiceScale$Refusal" 69 "SpiceScale$Caravan" "bagGrains" "[I" "SpiceScale", .fieldLinkNest "SpiceScale" 90 "SpiceScale$Caravan" "bagGrains" "[I" "SpiceScale", .fieldLinkNest "SpiceScale" 97 "SpiceScale$Caravan" "bagWeighings" "[I" "SpiceScale",
  .fieldLinkNest "SpiceScale" 116 "SpiceScale$Caravan" "uses" "[I" "SpiceScale", .fieldLinkNest "SpiceScale" 169 "SpiceScale$Caravan" "lastOathDay" "[I" "SpiceScale", .fieldLinkNest "SpiceScale" 271 "SpiceScale$Caravan" "soldBags" "I" "SpiceScale", .fieldLinkNest "SpiceScale" 252 "SpiceScale$Caravan" "soldGrains" "I" "SpiceScale",
  .fieldLinkNest "SpiceScale" 247 "SpiceScale$Caravan" "soldNet" "I" "SpiceScale", .fieldLinkNest "SpiceScale" 274 "SpiceScale$Caravan" "coinsGot" "I" "SpiceScale", .methodLinkNest "SpiceScale" 25 yX2_init "SpiceScale", .methodLinkNest "SpiceScale$History" 17 yX0_init "SpiceScale",
  .fieldLinkNest "SpiceScale" 280 "SpiceScale$History" "kept" "I" "SpiceScale", .methodLinkNest "SpiceScale" 32 yX3_init "SpiceScale", .fieldLinkNest "SpiceScale" 214 "SpiceScale$Refusal" "reason" "I" "SpiceScale", .fieldLinkNest "SpiceScale" 219 "SpiceScale$Refusal" "detail" "I" "SpiceScale",
  .fieldLinkNest "SpiceScale" 222 "SpiceScale$Refusal" "command" "I" "SpiceScale", .methodLinkNest "SpiceScale" 39 yX1_init "SpiceScale", .fieldLinkNest "SpiceScale" 191 "SpiceScale$CommandText" "characters" "[C" "SpiceScale", .fieldLinkNest "SpiceScale" 183 "SpiceScale$CommandText" "length" "I" "SpiceScale",
  .fieldLinkNest "SpiceScale" 199 "SpiceScale$CommandText" "position" "I" "SpiceScale", .fieldLinkNest "SpiceScale" 330 "SpiceScale$CommandText" "action" "I" "SpiceScale", .fieldLinkNest "SpiceScale" 323 "SpiceScale$CommandText" "numbers" "[I" "SpiceScale", .methodLinkNest "SpiceScale" 291 yX0_copyFrom "SpiceScale",
  .methodLinkNest "SpiceScale" 308 yX3_applies "SpiceScale", .methodLinkNest "SpiceScale$Refusal" 56 yX4_isSpice "SpiceScale", .methodLinkNest "SpiceScale$Refusal" 26 yX0_hasBag "SpiceScale", .methodLinkNest "SpiceScale$Refusal" 66 yX0_hasJar "SpiceScale",
  .methodLinkNest "SpiceScale$Refusal" 104 yX0_isOathInForce "SpiceScale", .methodLinkNest "SpiceScale$Refusal" 107 yX0_oathDaysLeft "SpiceScale", .fieldLinkNest "SpiceScale$Refusal" 88 "SpiceScale" "GREATEST_UNNOTICED" "[I" "SpiceScale", .methodLinkNest "SpiceScale$Refusal" 94 yX0_netOf "SpiceScale",
  .fieldLinkNest "SpiceScale$Caravan" 167 "SpiceScale" "GRAINS_OF_WEIGHT" "[I" "SpiceScale", .fieldLinkNest "SpiceScale$Caravan" 164 "SpiceScale" "MOST_SHORTNESS" "[I" "SpiceScale", .methodLinkNest "SpiceScale$Caravan" 130 yX4_toldBy "SpiceScale", .methodLinkNest "SpiceScale$Refusal" 111 yX4_isMarket "SpiceScale",
  .methodLinkNest "SpiceScale$Refusal" 114 yX4_isWeight "SpiceScale", .methodLinkNest "SpiceScale" 314 yX2_hold "SpiceScale", .methodLinkNest "SpiceScale$History" 22 yX0_copyFrom "SpiceScale", .methodLinkNest "SpiceScale" 317 yX2_keepHeld "SpiceScale",
  .methodLinkNest "SpiceScale" 320 yX0_carryOut "SpiceScale", .methodLinkNest "SpiceScale$Caravan" 126 yX4_isAmong "SpiceScale", .methodLinkNest "SpiceScale$Caravan" 173 yX4_priceOf "SpiceScale", .fieldLinkNest "SpiceScale$Caravan" 158 "SpiceScale" "PLACE" "[I" "SpiceScale",
  .methodLinkNest "SpiceScale$Caravan" 154 yX4_sumOf "SpiceScale", .methodLinkNest "SpiceScale" 113 yX0_shortnessOf "SpiceScale", .methodLinkNest "SpiceScale" 119 yX0_usesToBeShorter "SpiceScale", .methodLinkNest "SpiceScale" 296 yX0_hasBag "SpiceScale",
  .methodLinkNest "SpiceScale" 93 yX0_loadOf "SpiceScale", .methodLinkNest "SpiceScale" 124 yX0_weightsFor "SpiceScale", .methodLinkNest "SpiceScale" 130 yX0_restOf "SpiceScale", .methodLinkNest "SpiceScale" 133 yX0_shortnessTogether "SpiceScale",
  .methodLinkNest "SpiceScale" 195 yX1_countCommands "SpiceScale", .methodLinkNest "SpiceScale" 326 yX1_readCommand "SpiceScale", .methodLinkNest "SpiceScale" 333 yX2_bringBackHeld "SpiceScale", .methodLinkNest "SpiceScale" 277 yX0_oathsInForce "SpiceScale",
  .methodLinkNest "SpiceScale" 287 yX2_takeBack "SpiceScale", .methodLinkNest "SpiceScale" 244 yX0_dustTogether "SpiceScale", .methodLinkNest "SpiceScale" 59 yX0_hasJar "SpiceScale", .methodLinkNest "SpiceScale" 151 yX0_netOf "SpiceScale",
  .methodLinkNest "SpiceScale" 154 yX0_coinsFor "SpiceScale", .methodLinkNest "SpiceScale" 158 yX0_marketThatGivesMost "SpiceScale", .methodLinkNest "SpiceScale" 178 yX0_bagOfRank "SpiceScale", .methodLinkNest "SpiceScale" 161 yX0_isOathInForce "SpiceScale",
  .castable "java/lang/UnsupportedOperationException" "java/lang/UnsupportedOperationException", .castable "java/lang/IndexOutOfBoundsException" "java/lang/IndexOutOfBoundsException", .castable "java/lang/IllegalArgumentException" "java/lang/IllegalArgumentException", .castable "java/util/NoSuchElementException" "java/util/NoSuchElementException",
  .castable "java/lang/IllegalStateException" "java/lang/IllegalStateException", .castable "java/lang/ArithmeticException" "java/lang/ArithmeticException", .declares ⟨"java/lang/RuntimeException", "<init>", "(Ljava/lang/String;)V"⟩, .declares ⟨"java/lang/Exception", "<init>", "(Ljava/lang/String;)V"⟩,
  .declares ⟨"java/lang/Throwable", "<init>", "(Ljava/lang/String;)V"⟩]
def k_isNest : Cond → Bool
  | .fieldLinkNest .. => true
  | .methodLinkNest .. => true
  | .castable .. => true
  | .declares .. => true
  | _ => false
theorem k_nest_tab {w : Cond} (hw : k_isNest w = true) : w.onTables = true := by
  cases w <;> first | rfl | (simp [k_isNest] at hw)
theorem k_nest_ok : ∀ w ∈ k_nest, k_isNest w = true := List.all_eq_true.mp (by decide +kernel)
theorem k_nest_warm {w : Cond} (hw : k_isNest w = true) {s U : State} (hW : s.WarmedH U.vm) (h : va_Nw w s) : va_Nw w U := by
  cases w <;> first | exact va_Nw.warmF hW h | exact va_Nw.warmM hW h | exact va_Nw.warmC hW h | exact va_Nw.warmD hW h | (simp [k_isNest] at hw)
theorem k_nest_same {w : Cond} (hw : k_isNest w = true) {u U : State} (hv : u.vm = U.vm) (h : va_Nw w u) : va_Nw w U := by
  cases w <;> first | (simp [k_isNest] at hw; done) | exact va_Nw.same rfl hv h
/-- the class's static arrays -/
def k_tn : Nat → String := fun i => match i with
  | 0 => "PLACE"
  | 1 => "GREATEST_UNNOTICED"
  | 2 => "GRAINS_OF_WEIGHT"
  | _ => "MOST_SHORTNESS"
def k_tl : Nat → Nat := fun i => match i with
  | 0 => 4
  | 1 => 4
  | 2 => 8
  | _ => 8
def k_tab : Nat → Nat → Int32 := fun i j => match i with
  | 0 => ([0, 3, 7, 12] : List Int32).getD j 0
  | 1 => ([4, 9, 14, 20] : List Int32).getD j 0
  | 2 => ([1, 2, 5, 10, 20, 50, 100, 200] : List Int32).getD j 0
  | _ => ([0, 0, 0, 1, 2, 5, 10, 20] : List Int32).getD j 0
/-- the texts: their owner, their place in the pool, the text, at which number of g.2.2 the address stands -/
def k_strs : List (String × Nat × String × Nat) := [("SpiceScale", 312, "it is refused", 412),
  ("SpiceScale", 108, "no such weight", 208),
  ("SpiceScale", 122, "a weight has the numbers 0 to 3", 222),
  ("SpiceScale", 299, "no such bag", 399),
  ("SpiceScale", 304, "no such market", 404),
  ("SpiceScale", 142, "no such spice", 242),
  ("SpiceScale", 188, "the text buffer is full", 288),
  ("SpiceScale$CommandText", 45, "1<1+3", 50),
  ("SpiceScale$CommandText", 47, "1>1", 51),
  ("SpiceScale$CommandText", 49, "", 52),
  ("SpiceScale$CommandText", 51, "2", 53),
  ("SpiceScale$CommandText", 53, "1", 54),
  ("SpiceScale", 205, "the text has a fault", 305),
  ("SpiceScale", 209, "a command is refused", 309),
  ("SpiceScale", 283, "there are the accounts 0 to 15", 383),
  ("SpiceScale", 285, "there is nothing to undo", 385),
  ("SpiceScale", 294, "there is no snapshot", 394),
  ("SpiceScale", 212, "a reason has the numbers 0 to 2", 312),
  ("SpiceScale", 217, "nothing was refused", 317),
  ("SpiceScale", 230, "the line has no such index", 330),
  ("SpiceScale", 250, "nothing was sold", 350),
  ("SpiceScale", 241, "there are no bags", 341),
  ("SpiceScale", 65, "no such jar", 165),
  ("SpiceScale", 102, "a bag has the numbers 0 to 5", 202),
  ("SpiceScale", 306, "the bag is empty", 406),
  ("SpiceScale", 181, "no such rank", 281),
  ("SpiceScale", 166, "no oath is in force there", 266),
  ("SpiceScaleLaw", 252, "w", 1000),
  ("SpiceScaleLaw", 260, ";n", 1001),
  ("SpiceScaleLaw", 266, "t", 1002),
  ("SpiceScaleLaw", 268, ";f", 1003),
  ("SpiceScaleLaw", 270, "<", 1004),
  ("SpiceScaleLaw", 272, "+", 1005),
  ("SpiceScaleLaw", 286, "q", 1006),
  ("SpiceScaleLaw", 291, "n1;n1;n0", 1007),
  ("SpiceScaleLaw", 301, "200+100+50+20+10+5+2+1=388", 1008)]
def k_fl : List Nat := [5, 3, 0, 1, 1]
def k_fb : List (List Int32) := [[49, 60, 49, 43, 51], [49, 62, 49], [], [50], [49]]
def kq_len : List Nat := [1, 2, 1, 2, 1, 1, 1, 8, 26]
def kq_byt : List (List Int32) := [[119], [59, 110], [116], [59, 102], [60], [43], [113], [110, 49, 59, 110, 49, 59, 110, 48], [50, 48, 48, 43, 49, 48, 48, 43, 53, 48, 43, 50, 48, 43, 49, 48, 43, 53, 43, 50, 43, 49, 61, 51, 56, 56]]
/-- the formatter of Preconditions, or null -/
def kFm (g : kG) : Value := if g.2.2 7 = 0 then .null else .ref (g.2.2 6)
theorem k_fmA (g : kG) (x y : Int32) : lv_args 0 [.int x, .int y, kFm g] = [(0, .int x), (1, .int y), (2, kFm g)] := by
  unfold kFm
  split <;> rfl
theorem k_fmS (g : kG) (x y : Int32) : (lg_sl [.int x, .int y, kFm g]).length ≤ 3 := by
  unfold kFm
  split <;> exact Nat.le_of_ble_eq_true rfl
def kZ (g : kG) (A : Nat → Prop) (U : State) (H : Heap) : Prop :=
  (∀ i : Nat, i < 4 → va_Z "SpiceScale" (k_tn i) "[I" (.ref (g.2.2 i)) A U H ∧ va_T .int (g.2.2 i) (k_tl i) (fun j => .int (k_tab i j)) A U H) ∧
  va_Z "java/lang/String" "COMPACT_STRINGS" "Z" (.int 1) A U H ∧
  (va_Z "java/lang/Integer" "DigitTens" "[B" (.ref (g.2.2 4)) A U H ∧ va_T .byte (g.2.2 4) 100 (fun j => .int (nI (48 + j / 10))) A U H) ∧
  (va_Z "java/lang/Integer" "DigitOnes" "[B" (.ref (g.2.2 5)) A U H ∧ va_T .byte (g.2.2 5) 100 (fun j => .int (nI (48 + j % 10))) A U H) ∧
  (vx_Zq Bundle.tN "UNASSIGNED_STACK" Bundle.steD A U H ∧ vx_Zq Bundle.tN "SUPPRESSED_SENTINEL" Bundle.listD A U H) ∧
  (vk_S 5 k_fl k_fb (fun i => g.2.2 (50 + i)) (fun i => g.2.2 (60 + i)) A U H ∧ va_Z "jdk/internal/util/Preconditions" "SIOOBE_FORMATTER" "Ljava/util/function/BiFunction;" (kFm g) A U H ∧ vk_S 9 kq_len kq_byt (fun i => g.2.2 (1000 + i)) (fun i => g.2.2 (1050 + i)) A U H)
theorem kZ.moved {g : kG} {A : Nat → Prop} {u U : State} {H : Heap} (hvm : u.vm.Alike U.vm) (h : kZ g A u H) : kZ g A U H :=
  ⟨fun i hi => ⟨va_Z.moved hvm (h.1 i hi).1, va_T.moved hvm (h.1 i hi).2⟩, va_Z.moved hvm h.2.1, ⟨va_Z.moved hvm h.2.2.1.1, va_T.moved hvm h.2.2.1.2⟩, ⟨va_Z.moved hvm h.2.2.2.1.1, va_T.moved hvm h.2.2.2.1.2⟩, ⟨vx_Zq.moved hvm h.2.2.2.2.1.1, vx_Zq.moved hvm h.2.2.2.2.1.2⟩, ⟨vk_S.moved hvm h.2.2.2.2.2.1, va_Z.moved hvm h.2.2.2.2.2.2.1, vk_S.moved hvm h.2.2.2.2.2.2.2⟩⟩
theorem kZ.kept {g : kG} {A : Nat → Prop} {U : State} {H H1 : Heap} (h : kZ g A U H) (hq : ∀ a : Nat, a < H.size → ¬ A a → H1[a]? = H[a]?) : kZ g A U H1 :=
  ⟨fun i hi => ⟨(h.1 i hi).1.kept hq, (h.1 i hi).2.kept hq⟩, h.2.1.kept hq, ⟨h.2.2.1.1.kept hq, h.2.2.1.2.kept hq⟩, ⟨h.2.2.2.1.1.kept hq, h.2.2.2.1.2.kept hq⟩, ⟨h.2.2.2.2.1.1.kept hq, h.2.2.2.2.1.2.kept hq⟩, ⟨h.2.2.2.2.2.1.kept hq, h.2.2.2.2.2.2.1.kept hq, h.2.2.2.2.2.2.2.kept hq⟩⟩
theorem kZ.narrow {g : kG} {A B : Nat → Prop} {U : State} {H : Heap} (h : kZ g A U H) (hAB : ∀ q, B q → A q) : kZ g B U H :=
  ⟨fun i hi => ⟨(h.1 i hi).1.narrow hAB, (h.1 i hi).2.narrow hAB⟩, h.2.1.narrow hAB, ⟨h.2.2.1.1.narrow hAB, h.2.2.1.2.narrow hAB⟩, ⟨h.2.2.2.1.1.narrow hAB, h.2.2.2.1.2.narrow hAB⟩, ⟨h.2.2.2.2.1.1.narrow hAB, h.2.2.2.2.1.2.narrow hAB⟩, ⟨h.2.2.2.2.2.1.narrow hAB, h.2.2.2.2.2.2.1.narrow hAB, h.2.2.2.2.2.2.2.narrow hAB⟩⟩
/-- what a method needs of the machine's tables and of the statics -/
def kE (g : kG) (A : Nat → Prop) (U : State) (H : Heap) : Prop :=
  va_K g.1 vwCl (kT g) U ∧ (∀ w ∈ k_nest, va_Nw w U) ∧ (∀ q ∈ k_strs, vk_R q.1 q.2.1 q.2.2.1 (g.2.2 q.2.2.2) U) ∧ kZ g A U H
theorem kE.call {g : kG} {A B : Nat → Prop} {s U : State} {H : Heap} {locs : List Loc} (h : kE g A s s.heap) (hS : va_S A s.heap H locs) (hAB : ∀ q, B q → A q) (hU : U.heap = H) (hW : s.WarmedH U.vm) : kE g B U U.heap :=
  ⟨va_K.moved hW.alike h.1, fun w hw => k_nest_warm (k_nest_ok w hw) hW (h.2.1 w hw), fun q hq => vk_R.warm hW (h.2.2.1 q hq), by rw [hU]; exact ((h.2.2.2.kept hS.2.1).moved hW.alike).narrow hAB⟩
theorem kE.blind {g : kG} {A : Nat → Prop} {U : State} {f : JFrame} {mk : MethodId} {a : Array Value} (h : kE g A U U.heap) : kE g A (U.calling f mk a) (U.calling f mk a).heap :=
  ⟨va_K.moved (u := U) (U := U.calling f mk a) (Vm.Alike.refl U.vm) h.1, fun w hw => k_nest_same (u := U) (U := U.calling f mk a) (k_nest_ok w hw) rfl (h.2.1 w hw), fun q hq => vk_R.same (u := U) (U := U.calling f mk a) rfl (h.2.2.1 q hq), kZ.moved (u := U) (U := U.calling f mk a) (Vm.Alike.refl U.vm) h.2.2.2⟩
theorem kE.no {g : kG} {A : Nat → Prop} {U : State} {H : Heap} (h : kE g A U H) : kE g (fun _ => False) U H := ⟨h.1, h.2.1, h.2.2.1, h.2.2.2.narrow (fun _ q => q.elim)⟩
/-! worlds as lists of chunks -/
def kp (g : kG) (cs : List va_W) (H : Heap) : Prop := va_P g.1 vwCl cs.flatten H
def kd (A : Nat → Prop) (cs : List va_W) : Prop := va_D A cs.flatten
theorem kp_iff {g : kG} {cs : List va_W} {H : Heap} : kp g cs H ↔ ∀ ch ∈ cs, ∀ q ∈ ch, va_at g.1 vwCl q H := by
  constructor
  · intro h ch hch q hq
    obtain ⟨k, hk⟩ := List.getElem?_of_mem (List.mem_flatten.mpr ⟨ch, hch, hq⟩)
    exact h k q hk
  · intro h k q hk
    obtain ⟨ch, hch, hq⟩ := List.mem_flatten.mp (List.mem_of_getElem? hk)
    exact h ch hch q hq
def kne (p q : Nat × va_E) : Prop := p.1 ≠ q.1
theorem kd_w {A : Nat → Prop} {ws : va_W} : va_D A ws ↔ ws.Pairwise kne ∧ ∀ q ∈ ws, A q.1 := by
  constructor
  · intro h
    refine ⟨List.pairwise_iff_getElem.mpr fun i j hi hj hij e => ?_, fun q hq => ?_⟩
    · have := h.1 i j _ _ (List.getElem?_eq_getElem hi) (List.getElem?_eq_getElem hj) e
      omega
    · obtain ⟨k, hk⟩ := List.getElem?_of_mem hq
      exact h.2 k q hk
  · intro h
    refine ⟨fun i j p q hp hq e => ?_, fun k q hk => h.2 q (List.mem_of_getElem? hk)⟩
    obtain ⟨hi, rfl⟩ := List.getElem?_eq_some_iff.mp hp
    obtain ⟨hj, rfl⟩ := List.getElem?_eq_some_iff.mp hq
    rcases Nat.lt_trichotomy i j with hij | hij | hij
    · exact absurd e (List.pairwise_iff_getElem.mp h.1 i j hi hj hij)
    · exact hij
    · exact absurd e.symm (List.pairwise_iff_getElem.mp h.1 j i hj hi hij)
def kap (a b : va_W) : Prop := ∀ p ∈ a, ∀ q ∈ b, kne p q
theorem kap_symm {a b : va_W} (h : kap a b) : kap b a := fun p hp q hq e => h q hq p hp e.symm
theorem kd_iff {A : Nat → Prop} {cs : List va_W} : kd A cs ↔ (∀ ch ∈ cs, ch.Pairwise kne) ∧ cs.Pairwise kap ∧ ∀ ch ∈ cs, ∀ q ∈ ch, A q.1 := by
  unfold kd
  rw [kd_w, List.pairwise_flatten]
  constructor
  · rintro ⟨⟨h1, h2⟩, h3⟩
    exact ⟨h1, h2, fun ch hch q hq => h3 q (List.mem_flatten.mpr ⟨ch, hch, hq⟩)⟩
  · rintro ⟨h1, h2, h3⟩
    exact ⟨⟨h1, h2⟩, fun q hq => by obtain ⟨ch, hch, hq⟩ := List.mem_flatten.mp hq; exact h3 ch hch q hq⟩
/-- chunks picked by place -/
theorem k_pick {cs ws : List va_W} {is : List Nat} (h : is.map (fun i => cs[i]?) = ws.map some) : ∀ (k : Nat) (ch : va_W), ws[k]? = some ch → ∃ i, is[k]? = some i ∧ cs[i]? = some ch := by
  intro k ch hk
  have h1 : (is.map (fun i => cs[i]?))[k]? = some (some ch) := by rw [h, List.getElem?_map, hk]; rfl
  rw [List.getElem?_map] at h1
  cases hi : is[k]? with
  | none => rw [hi] at h1; cases h1
  | some i => rw [hi] at h1; exact ⟨i, rfl, Option.some.inj h1⟩
theorem kp.pick {g : kG} {cs ws : List va_W} {H : Heap} (h : kp g cs H) (is : List Nat) (hs : is.map (fun i => cs[i]?) = ws.map some) : kp g ws H := by
  rw [kp_iff] at h ⊢
  intro ch hch q hq
  obtain ⟨k, hk⟩ := List.getElem?_of_mem hch
  obtain ⟨i, -, hi⟩ := k_pick hs k ch hk
  exact h ch (List.mem_of_getElem? hi) q hq
theorem kap_at {cs : List va_W} (h : cs.Pairwise kap) {i j : Nat} {a b : va_W} (hi : cs[i]? = some a) (hj : cs[j]? = some b) (hij : i ≠ j) : kap a b := by
  obtain ⟨h1, rfl⟩ := List.getElem?_eq_some_iff.mp hi
  obtain ⟨h2, rfl⟩ := List.getElem?_eq_some_iff.mp hj
  rcases Nat.lt_or_gt_of_ne hij with h3 | h3
  · exact List.pairwise_iff_getElem.mp h i j h1 h2 h3
  · exact kap_symm (List.pairwise_iff_getElem.mp h j i h2 h1 h3)
theorem kd.pick {A : Nat → Prop} {cs ws : List va_W} (h : kd A cs) (is : List Nat) (hn : va_nd is = true) (hs : is.map (fun i => cs[i]?) = ws.map some) : kd A ws := by
  rw [kd_iff] at h ⊢
  obtain ⟨h1, h2, h3⟩ := h
  refine ⟨fun ch hch => ?_, List.pairwise_iff_getElem.mpr fun i j hi hj hij => ?_, fun ch hch => ?_⟩
  · obtain ⟨k, hk⟩ := List.getElem?_of_mem hch
    obtain ⟨i, -, hi⟩ := k_pick hs k ch hk
    exact h1 ch (List.mem_of_getElem? hi)
  · obtain ⟨a, ha1, ha2⟩ := k_pick hs i _ (List.getElem?_eq_getElem hi)
    obtain ⟨b, hb1, hb2⟩ := k_pick hs j _ (List.getElem?_eq_getElem hj)
    exact kap_at h2 ha2 hb2 (fun e => by subst e; have := va_nd_inj is hn i j a ha1 hb1; omega)
  · obtain ⟨k, hk⟩ := List.getElem?_of_mem hch
    obtain ⟨i, -, hi⟩ := k_pick hs k ch hk
    exact h3 ch (List.mem_of_getElem? hi)
theorem kd.weaken {A B : Nat → Prop} {cs : List va_W} (h : kd A cs) (hAB : ∀ q, A q → B q) : kd B cs := va_D.weaken h (fun _ q _ hq => hAB q.1 hq)
theorem kd.self {A : Nat → Prop} {cs : List va_W} {sz : Nat} (h : kd A cs) : kd (va_A cs.flatten sz) cs := va_D.self h
theorem k_in {cs : List va_W} {sz : Nat} {q : Nat} : va_A cs.flatten sz q ↔ (∃ ch ∈ cs, ∃ e : va_E, (q, e) ∈ ch) ∨ sz ≤ q := by
  unfold va_A
  constructor
  · rintro (⟨k, e, h⟩ | h)
    · obtain ⟨ch, hch, hq⟩ := List.mem_flatten.mp (List.mem_of_getElem? h)
      exact Or.inl ⟨ch, hch, e, hq⟩
    · exact Or.inr h
  · rintro (⟨ch, hch, e, hq⟩ | h)
    · obtain ⟨k, hk⟩ := List.getElem?_of_mem (List.mem_flatten.mpr ⟨ch, hch, hq⟩)
      exact Or.inl ⟨k, e, hk⟩
    · exact Or.inr h
theorem k_free {A : Nat → Prop} {cs ws : List va_W} {H0 H : Heap} {locs : List Loc} (hD : kd A cs) (hS : va_S A H0 H locs) (hA : ∀ q, H0.size ≤ q → A q) (is : List Nat) (hs : is.map (fun i => cs[i]?) = ws.map some) : ∀ q, va_A ws.flatten H.size q → A q := by
  intro q hq
  rcases k_in.mp hq with ⟨ch, hch, e, h⟩ | h
  · obtain ⟨k, hk⟩ := List.getElem?_of_mem hch
    obtain ⟨i, -, hi⟩ := k_pick hs k ch hk
    exact (kd_iff.mp hD).2.2 ch (List.mem_of_getElem? hi) _ h
  · exact hA q (Nat.le_trans hS.1 h)
theorem k_join {A : Nat → Prop} {g : kG} {cs wc wr u : List va_W} {H H1 : Heap} (hP : kp g cs H) (hD : kd A cs) (iC iR : List Nat) (hC : iC.map (fun i => cs[i]?) = wc.map some) (hR : iR.map (fun i => cs[i]?) = wr.map some) (hn : va_nd iR = true) (hdis : ∀ i ∈ iR, i ∉ iC)
    (hk : ∀ q : Nat, q < H.size → ¬ va_A wc.flatten H.size q → H1[q]? = H[q]?) (hF : ∀ q, va_A wc.flatten H.size q → A q) (hP1 : kp g u H1) (hD1 : kd (va_A wc.flatten H.size) u) : kp g (wr ++ u) H1 ∧ kd A (wr ++ u) := by
  have apart : ∀ ch ∈ wr, ∀ q ∈ ch, q.1 < H.size ∧ ¬ va_A wc.flatten H.size q.1 := by
    intro ch hch q hq
    obtain ⟨k, hk⟩ := List.getElem?_of_mem hch
    obtain ⟨i, hi1, hi2⟩ := k_pick hR k ch hk
    have hl : q.1 < H.size := (kp_iff.mp hP ch (List.mem_of_getElem? hi2) q hq).lt
    refine ⟨hl, fun h => ?_⟩
    rcases k_in.mp h with ⟨ch2, hch2, e, h⟩ | h
    · obtain ⟨k2, hk2⟩ := List.getElem?_of_mem hch2
      obtain ⟨j, hj1, hj2⟩ := k_pick hC k2 ch2 hk2
      by_cases hij : i = j
      · subst hij
        exact hdis i (List.mem_of_getElem? hi1) (List.mem_of_getElem? hj1)
      · exact kap_at (kd_iff.mp hD).2.1 hi2 hj2 hij q hq _ h rfl
    · omega
  have hDr := hD.pick iR hn hR
  refine ⟨kp_iff.mpr fun ch hch q hq => ?_, kd_iff.mpr ⟨fun ch hch => ?_, List.pairwise_append.mpr ⟨(kd_iff.mp hDr).2.1, (kd_iff.mp hD1).2.1, fun a ha b hb p hp q hq e => ?_⟩, fun ch hch q hq => ?_⟩⟩
  · rcases List.mem_append.mp hch with h | h
    · obtain ⟨k, hk1⟩ := List.getElem?_of_mem h
      obtain ⟨i, -, hi2⟩ := k_pick hR k ch hk1
      obtain ⟨g1, g2⟩ := apart ch h q hq
      exact (kp_iff.mp hP ch (List.mem_of_getElem? hi2) q hq).kept (hk q.1 g1 g2)
    · exact kp_iff.mp hP1 ch h q hq
  · rcases List.mem_append.mp hch with h | h
    · exact (kd_iff.mp hDr).1 ch h
    · exact (kd_iff.mp hD1).1 ch h
  · exact (apart a ha p hp).2 (by rw [e]; exact (kd_iff.mp hD1).2.2 b hb q hq)
  · rcases List.mem_append.mp hch with h | h
    · exact (kd_iff.mp hDr).2.2 ch h q hq
    · exact hF q.1 ((kd_iff.mp hD1).2.2 ch h q hq)
/-- a cell in a chunk: its place in the world, and what a store makes of the chunks -/
theorem k_loc : ∀ {cs : List va_W} {i q : Nat} {ch : va_W} {x : Nat × va_E}, cs[i]? = some ch → ch[q]? = some x → ∃ n : Nat, cs.flatten[n]? = some x ∧ ∀ y : Nat × va_E, cs.flatten.set n y = (cs.set i (ch.set q y)).flatten
  | [], i, q, ch, x, h, _ => by simp at h
  | c :: cs, 0, q, ch, x, h, hq => by
    obtain rfl : c = ch := by simpa using h
    have hl : q < c.length := (List.getElem?_eq_some_iff.mp hq).1
    refine ⟨q, ?_, fun y => ?_⟩
    · rw [List.flatten_cons, List.getElem?_append_left hl]
      exact hq
    · rw [List.flatten_cons, List.set_cons_zero, List.flatten_cons, List.set_append, if_pos hl]
  | c :: cs, i + 1, q, ch, x, h, hq => by
    obtain ⟨n, h1, h2⟩ := k_loc (cs := cs) (i := i) (by simpa using h) hq
    refine ⟨c.length + n, ?_, fun y => ?_⟩
    · rw [List.flatten_cons, List.getElem?_append_right (by omega), Nat.add_sub_cancel_left]
      exact h1
    · rw [List.flatten_cons, List.set_cons_succ, List.flatten_cons, List.set_append, if_neg (by omega), Nat.add_sub_cancel_left, h2]
theorem kp.cell {g : kG} {cs : List va_W} {H : Heap} (h : kp g cs H) {i q : Nat} {ch : va_W} {x : Nat × va_E} (hch : cs[i]? = some ch) (hq : ch[q]? = some x) : kp g [[x]] H := by
  rw [kp_iff] at h ⊢
  intro c hc y hy
  obtain rfl := List.mem_singleton.mp hc
  obtain rfl := List.mem_singleton.mp hy
  exact h ch (List.mem_of_getElem? hch) _ (List.mem_of_getElem? hq)
/-! the machine at hand -/
def kC (p : Program) (c : Code) (cc : ByteArray) (s : State) (m : MethodId) (args : Array Value) (meth : Method) (own : String) (g : kG) (nL : Nat) (ret : Option FieldType) : Prop :=
  (p.tables.exec = Jvm.exec ∧ c.code = cc ∧ c.maxLocals = nL ∧ s.vm.findClass own = some m.cls ∧ ∀ w ∈ kW, w.before args s = true) ∧ (va_K g.1 vwCl (kT g) s ∧ ∀ w ∈ k_nest, va_Nw w s) ∧ meth.sig.returnType = ret ∧ meth.locks = false
def kFl (Cn : String) (T : u_T) (N ci : Nat) (ty0 : Nat → FieldType) : Prop := vwCl[ci]? = some (Cn, T, N) ∧ (∀ k, k < N → parseFieldDescriptor (T k).2.2.1 = some (ty0 k)) ∧ (∀ a, a < N → ∀ b, b < N → a ≠ b → (T a).2.1 ≠ (T b).2.1) ∧ ∀ w ∈ u_ws Cn T N, w ∈ kW
abbrev kRm (f c s lo : Nat) : Room := { frames := f, cells := c, slots := s, locals := lo }
/-- a method that only reads: its answer -/
def kR (l : Launch) (y : MethodName) (ws : List Cond) (f lo : Nat) (g : kG) (av : List Value) (cs : List va_W) (v : Int32) : Prop :=
  Met l y ws (kRm f 0 0 lo) (va_Pc av (fun U => kp g cs U.heap ∧ kE g (fun _ => False) U U.heap)) (vp_Si (fun r => r = v)) 0 0 (fun _ => False)
def kPre (g : kG) (av : List Value) (cs : List va_W) (sz : Nat) : Array Value → State → Prop := va_Pc av (fun U => U.heap.size = sz ∧ kp g cs U.heap ∧ kd (fun _ => True) cs ∧ kE g (va_A cs.flatten sz) U U.heap)
def kQi (g : kG) (post : Int32 → List va_W → Prop) (A : Nat → Prop) : Array Value → State → Outcome → State → Prop := va_Qi post (fun u t => kp g u t.heap ∧ kd A u) A
def kQv (g : kG) (post : List va_W → Prop) (A : Nat → Prop) : Array Value → State → Outcome → State → Prop := va_Qv post (fun u t => kp g u t.heap ∧ kd A u) A
/-- a method that changes its world, and answers an int -/
def kM (l : Launch) (y : MethodName) (ws : List Cond) (f lo mc ms : Nat) (g : kG) (av : List Value) (cs : List va_W) (post : Int32 → List va_W → Prop) : Prop :=
  ∀ sz : Nat, Met l y ws (kRm f mc ms lo) (kPre g av cs sz) (kQi g post (va_A cs.flatten sz)) mc ms (va_A cs.flatten sz)
/-- .. and answers nothing -/
def kV (l : Launch) (y : MethodName) (ws : List Cond) (f lo mc ms : Nat) (g : kG) (av : List Value) (cs : List va_W) (post : List va_W → Prop) : Prop :=
  ∀ sz : Nat, Met l y ws (kRm f mc ms lo) (kPre g av cs sz) (kQv g post (va_A cs.flatten sz)) mc ms (va_A cs.flatten sz)
theorem kPre_blind {g : kG} {av : List Value} {cs : List va_W} {sz : Nat} : FrameBlind (kPre g av cs sz) := fun a U f mk q => by
  obtain ⟨q0, q1, q2, q3, q4⟩ := q
  exact ⟨q0, q1, q2, q3, q4.blind⟩
theorem kR_blind {g : kG} {av : List Value} {cs : List va_W} {A : Nat → Prop} : FrameBlind (va_Pc av (fun U => kp g cs U.heap ∧ kE g A U U.heap)) := fun a U f mk q => by
  obtain ⟨q0, q1, q2⟩ := q
  exact ⟨q0, q1, q2.blind⟩
section KROWS
variable {p : Program} {l : Launch} {e : Env} {R : Room} {s : State} {m : MethodId} {args : Array Value} {below : List Frame} {meth : Method} {c : Code} {H : Heap} {locs : List Loc} {cells slots : Nat} {Q : State → Prop}
variable {cc : ByteArray} {pc nL : Nat} {ls : Array Slot} {st rest : List Value} {A : Nat → Prop} {H0 : Heap} {g : kG} {cs : List va_W} {own : String} {ret : Option FieldType}
theorem kR_of {y : MethodName} {ws : List Cond} {f lo : Nat} {av : List Value} {v : Int32} {lv : List (Nat × Value)} (hy : plainName y.cls = true) (hw : ws = Cond.code y cc nL ret :: kW) (hav : (lg_sl av).length ≤ nL) (hlv : lv_args 0 av = lv)
    (body : ∀ (p : Program) (e : Env) (s : State) (m : MethodId) (args : Array Value) (below : List Frame) (meth : Method) (c : Code) (ls : Array Slot), kC p c cc s m args meth y.cls g nL ret → kp g cs s.heap → kE g (fun _ => False) s s.heap → lv_has ls nL lv →
      W p l e (kRm f 0 0 lo) s m args below meth c s.heap [] 0 0 (MQ below (vp_Si (fun r => r = v)) args s 0 0 (fun _ => False)) (F0 m 0 ls [])) : kR l y ws f lo g av cs v := by
  refine Met.ofW (cc := cc) (maxL := nL) (ret := ret) hy hw ?_
  intro p e s m args below meth c s₁ B hml hv
  obtain ⟨rfl, hP, hE⟩ := hv
  have hl := lv_entry av (n := nL) hav
  rw [lg_entry_eq]
  subst hlv
  exact body p e s m _ below meth c _ ⟨⟨B.exec, B.bytes, hml, findClass_of_methodNamed B.named, fun w h => atoms_spec (ws := ws) B.pre w (by rw [hw]; exact List.mem_cons_of_mem _ h)⟩, ⟨hE.1, hE.2.1⟩, B.returns, B.notSynchronized⟩ hP hE hl
theorem kR_ret {v x : Int32} (C : kC p c cc s m args meth own g nL (some .int)) (hv : x = v) (d : decode cc pc = .ok (.ireturn, 1)) : W p l e R s m args below meth c s.heap [] 0 0 (MQ below (vp_Si (fun r => r = v)) args s 0 0 (fun _ => False)) (F0 m pc ls [.int x]) :=
  W.iret C.1.1 C.1.2.1 C.2.2.1 (fun t ht _ => ⟨x, rfl, hv, ht⟩) (fun q hq => absurd hq List.not_mem_nil) d C.2.2.2
theorem kR_zret {v x : Int32} {ty : FieldType} (C : kC p c cc s m args meth own g nL (some ty)) (hn : narrow ty (.int x) = .int x) (hv : x = v) (d : decode cc pc = .ok (.ireturn, 1)) : W p l e R s m args below meth c s.heap [] 0 0 (MQ below (vp_Si (fun r => r = v)) args s 0 0 (fun _ => False)) (F0 m pc ls [.int x]) :=
  W.zret C.1.1 C.1.2.1 C.2.2.1 hn (fun t ht _ => ⟨x, rfl, hv, ht⟩) (fun q hq => absurd hq List.not_mem_nil) d C.2.2.2
theorem kM_of {y : MethodName} {ws : List Cond} {f lo mc ms : Nat} {av : List Value} {post : Int32 → List va_W → Prop} {lv : List (Nat × Value)} (hy : plainName y.cls = true) (hw : ws = Cond.code y cc nL ret :: kW) (hav : (lg_sl av).length ≤ nL) (hlv : lv_args 0 av = lv)
    (body : ∀ (p : Program) (e : Env) (s : State) (m : MethodId) (args : Array Value) (below : List Frame) (meth : Method) (c : Code) (ls : Array Slot) (A : Nat → Prop), kC p c cc s m args meth y.cls g nL ret → kp g cs s.heap → kd A cs → kE g A s s.heap → (∀ q, s.heap.size ≤ q → A q) → va_S A s.heap s.heap [] → lv_has ls nL lv →
      W p l e (kRm f mc ms lo) s m args below meth c s.heap [] 0 0 (MQ below (kQi g post A) args s mc ms A) (F0 m 0 ls [])) : kM l y ws f lo mc ms g av cs post := by
  intro sz
  refine Met.ofW (cc := cc) (maxL := nL) (ret := ret) hy hw ?_
  intro p e s m args below meth c s₁ B hml hv
  obtain ⟨rfl, hsz, hP, hD, hE⟩ := hv
  subst hsz
  have hl := lv_entry av (n := nL) hav
  rw [lg_entry_eq]
  subst hlv
  exact body p e s m _ below meth c _ _ ⟨⟨B.exec, B.bytes, hml, findClass_of_methodNamed B.named, fun w h => atoms_spec (ws := ws) B.pre w (by rw [hw]; exact List.mem_cons_of_mem _ h)⟩, ⟨hE.1, hE.2.1⟩, B.returns, B.notSynchronized⟩ hP hD.self hE (fun q h => Or.inr h) va_S.rf hl
theorem kV_of {y : MethodName} {ws : List Cond} {f lo mc ms : Nat} {av : List Value} {post : List va_W → Prop} {lv : List (Nat × Value)} (hy : plainName y.cls = true) (hw : ws = Cond.code y cc nL ret :: kW) (hav : (lg_sl av).length ≤ nL) (hlv : lv_args 0 av = lv)
    (body : ∀ (p : Program) (e : Env) (s : State) (m : MethodId) (args : Array Value) (below : List Frame) (meth : Method) (c : Code) (ls : Array Slot) (A : Nat → Prop), meth.name = y.name → kC p c cc s m args meth y.cls g nL ret → kp g cs s.heap → kd A cs → kE g A s s.heap → (∀ q, s.heap.size ≤ q → A q) → va_S A s.heap s.heap [] → lv_has ls nL lv →
      W p l e (kRm f mc ms lo) s m args below meth c s.heap [] 0 0 (MQ below (kQv g post A) args s mc ms A) (F0 m 0 ls [])) : kV l y ws f lo mc ms g av cs post := by
  intro sz
  refine Met.ofW (cc := cc) (maxL := nL) (ret := ret) hy hw ?_
  intro p e s m args below meth c s₁ B hml hv
  obtain ⟨rfl, hsz, hP, hD, hE⟩ := hv
  subst hsz
  have hl := lv_entry av (n := nL) hav
  rw [lg_entry_eq]
  subst hlv
  exact body p e s m _ below meth c _ _ (name_of_methodNamed B.named B.method).1 ⟨⟨B.exec, B.bytes, hml, findClass_of_methodNamed B.named, fun w h => atoms_spec (ws := ws) B.pre w (by rw [hw]; exact List.mem_cons_of_mem _ h)⟩, ⟨hE.1, hE.2.1⟩, B.returns, B.notSynchronized⟩ hP hD.self hE (fun q h => Or.inr h) va_S.rf hl
theorem kM_ret {x : Int32} {u : List va_W} {post : Int32 → List va_W → Prop} (C : kC p c cc s m args meth own g nL (some .int)) (hP : kp g u H) (hD : kd A u) (hS : va_S A s.heap H locs) (hp : post x u) (d : decode cc pc = .ok (.ireturn, 1)) : W p l e R s m args below meth c H locs cells slots (MQ below (kQi g post A) args s cells slots A) (F0 m pc ls [.int x]) :=
  W.iret C.1.1 C.1.2.1 C.2.2.1 (fun t ht _ => ⟨⟨x, u, rfl, hp, by rw [ht]; exact hP, hD⟩, hS.F ht⟩) hS.2.2 d C.2.2.2
theorem kM_zret {x : Int32} {u : List va_W} {ty : FieldType} {post : Int32 → List va_W → Prop} (C : kC p c cc s m args meth own g nL (some ty)) (hn : narrow ty (.int x) = .int x) (hP : kp g u H) (hD : kd A u) (hS : va_S A s.heap H locs) (hp : post x u) (d : decode cc pc = .ok (.ireturn, 1)) : W p l e R s m args below meth c H locs cells slots (MQ below (kQi g post A) args s cells slots A) (F0 m pc ls [.int x]) :=
  W.zret C.1.1 C.1.2.1 C.2.2.1 hn (fun t ht _ => ⟨⟨x, u, rfl, hp, by rw [ht]; exact hP, hD⟩, hS.F ht⟩) hS.2.2 d C.2.2.2
theorem kV_ret {u : List va_W} {post : List va_W → Prop} (C : kC p c cc s m args meth own g nL none) (hP : kp g u H) (hD : kd A u) (hS : va_S A s.heap H locs) (hp : post u) (d : decode cc pc = .ok (.return_, 1)) : W p l e R s m args below meth c H locs cells slots (MQ below (kQv g post A) args s cells slots A) (F0 m pc ls []) :=
  W.vret C.1.1 C.1.2.1 C.2.2.1 (fun t ht _ => ⟨⟨u, rfl, hp, by rw [ht]; exact hP, hD⟩, hS.F ht⟩) hS.2.2 d C.2.2.2
/-! fields and arrays -/
theorem kg_get (C : kC p c cc s m args meth own g nL ret) {Cn : String} {T : u_T} {N ci index a i q k : Nat} {ty0 : Nat → FieldType} {ch : va_W} {fs : List Value} {v : Value} (hF : kFl Cn T N ci ty0) (hlink : Cond.fieldLink own index (T k).1 (T k).2.1 (T k).2.2.1 ∈ kW) (hP : kp g cs H) (hch : cs[i]? = some ch) (he : ch[q]? = some (a, .inr (ci, fs))) (hk : k < N) (hv : fs[k]? = some v) (d : decode cc pc = .ok (.getfield index, 3))
    (kk : W p l e R s m args below meth c H locs cells slots Q (F0 m (pc + 3) ls (v :: rest))) : W p l e R s m args below meth c H locs cells slots Q (F0 m pc ls (.ref a :: rest)) := by
  obtain ⟨n, hn, -⟩ := k_loc hch he
  exact va_get (D := g.1) C.1.1 C.1.2.1 C.1.2.2.2.2 hF.2.2.2 C.1.2.2.2.1 C.2.1.1 hP n hn hF.1 k hk (C.1.2.2.2.2 _ hlink) (fun _ h => h) hv d kk
theorem kg_getN (C : kC p c cc s m args meth own g nL ret) {Cn : String} {T : u_T} {N ci index a i q k : Nat} {ty0 : Nat → FieldType} {ch : va_W} {fs : List Value} {v : Value} (hF : kFl Cn T N ci ty0) (hlink : Cond.fieldLinkNest own index (T k).1 (T k).2.1 (T k).2.2.1 "SpiceScale" ∈ k_nest) (hP : kp g cs H) (hch : cs[i]? = some ch) (he : ch[q]? = some (a, .inr (ci, fs))) (hk : k < N) (hv : fs[k]? = some v) (d : decode cc pc = .ok (.getfield index, 3))
    (kk : W p l e R s m args below meth c H locs cells slots Q (F0 m (pc + 3) ls (v :: rest))) : W p l e R s m args below meth c H locs cells slots Q (F0 m pc ls (.ref a :: rest)) := by
  obtain ⟨n, hn, -⟩ := k_loc hch he
  exact va_getN (D := g.1) C.1.1 C.1.2.1 C.1.2.2.2.2 hF.2.2.2 C.1.2.2.2.1 C.2.1.1 hP n hn hF.1 k hk (va_Nw.use rfl (C.2.1.2 _ hlink)) (fun _ h => h) hv d kk
theorem kg_put (C : kC p c cc s m args meth own g nL ret) {Cn : String} {T : u_T} {N ci index a i q k : Nat} {ty0 : Nat → FieldType} {ch : va_W} {fs : List Value} {v : Value} {ch' : va_W} {cs' : List va_W} (hF : kFl Cn T N ci ty0) (hlink : Cond.fieldLink own index (T k).1 (T k).2.1 (T k).2.2.1 ∈ kW) (hP : kp g cs H) (hD : kd A cs) (hS : va_S A H0 H locs) (hch : cs[i]? = some ch) (he : ch[q]? = some (a, .inr (ci, fs))) (hk : k < N) (hfin : (T k).2.2.2 = false) (hn : narrow (ty0 k) v = v) (hfit : fits (ty0 k) v = true) (hl : k < fs.length) (hst : ch.set q (a, .inr (ci, fs.set k v)) = ch') (hcs : cs.set i ch' = cs') (d : decode cc pc = .ok (.putfield index, 3))
    (kk : ∀ (H1 : Heap) (locs1 : List Loc), kp g cs' H1 → kd A cs' → va_S A H0 H1 locs1 → W p l e R s m args below meth c H1 locs1 cells slots Q (F0 m (pc + 3) ls rest)) : W p l e R s m args below meth c H locs cells slots Q (F0 m pc ls (v :: .ref a :: rest)) := by
  obtain ⟨n, h1, h2⟩ := k_loc hch he
  subst hst; subst hcs
  refine va_put (D := g.1) C.1.1 C.1.2.1 C.1.2.2.2.2 hF.2.2.2 ty0 hF.2.1 hF.2.2.1 C.1.2.2.2.1 C.2.1.1 hP hD hS n h1 hF.1 k hk (C.1.2.2.2.2 _ hlink) (fun _ h => h) hfin (hF.2.1 k hk) hn hfit hl d (fun H1 locs1 hP hD hS => ?_)
  rw [h2] at hP hD
  exact kk H1 locs1 hP hD hS
theorem kg_putN (C : kC p c cc s m args meth own g nL ret) {Cn : String} {T : u_T} {N ci index a i q k : Nat} {ty0 : Nat → FieldType} {ch : va_W} {fs : List Value} {v : Value} {ch' : va_W} {cs' : List va_W} (hF : kFl Cn T N ci ty0) (hlink : Cond.fieldLinkNest own index (T k).1 (T k).2.1 (T k).2.2.1 "SpiceScale" ∈ k_nest) (hP : kp g cs H) (hD : kd A cs) (hS : va_S A H0 H locs) (hch : cs[i]? = some ch) (he : ch[q]? = some (a, .inr (ci, fs))) (hk : k < N) (hfin : (T k).2.2.2 = false) (hn : narrow (ty0 k) v = v) (hfit : fits (ty0 k) v = true) (hl : k < fs.length) (hst : ch.set q (a, .inr (ci, fs.set k v)) = ch') (hcs : cs.set i ch' = cs') (d : decode cc pc = .ok (.putfield index, 3))
    (kk : ∀ (H1 : Heap) (locs1 : List Loc), kp g cs' H1 → kd A cs' → va_S A H0 H1 locs1 → W p l e R s m args below meth c H1 locs1 cells slots Q (F0 m (pc + 3) ls rest)) : W p l e R s m args below meth c H locs cells slots Q (F0 m pc ls (v :: .ref a :: rest)) := by
  obtain ⟨n, h1, h2⟩ := k_loc hch he
  subst hst; subst hcs
  refine va_putN (D := g.1) C.1.1 C.1.2.1 C.1.2.2.2.2 hF.2.2.2 ty0 hF.2.1 hF.2.2.1 C.1.2.2.2.1 C.2.1.1 hP hD hS n h1 hF.1 k hk (va_Nw.use rfl (C.2.1.2 _ hlink)) (fun _ h => h) hfin (hF.2.1 k hk) hn hfit hl d (fun H1 locs1 hP hD hS => ?_)
  rw [h2] at hP hD
  exact kk H1 locs1 hP hD hS
theorem kg_iald (C : kC p c cc s m args meth own g nL ret) {a i q n : Nat} {ch : va_W} {f : Nat → Int32} {x : Int32} (hP : kp g cs H) (hch : cs[i]? = some ch) (he : ch[q]? = some (a, .inl (g.2.1 2, n, .inl f))) (hi : vp_in x n) (d : decode cc pc = .ok (.iaload, 1))
    (kk : W p l e R s m args below meth c H locs cells slots Q (F0 m (pc + 1) ls (.int (f x.toNatClampNeg) :: rest))) : W p l e R s m args below meth c H locs cells slots Q (F0 m pc ls (.int x :: .ref a :: rest)) := by
  obtain ⟨k, h1, -⟩ := k_loc hch he
  exact va_iald C.1.1 C.1.2.1 C.2.1.1 hP k 2 h1 rfl hi d kk
theorem kg_iast (C : kC p c cc s m args meth own g nL ret) {a i q n : Nat} {ch : va_W} {f : Nat → Int32} {x y : Int32} {ch' : va_W} {cs' : List va_W} (hP : kp g cs H) (hD : kd A cs) (hS : va_S A H0 H locs) (hch : cs[i]? = some ch) (he : ch[q]? = some (a, .inl (g.2.1 2, n, .inl f))) (hi : vp_in x n) (hst : ch.set q (a, .inl (g.2.1 2, n, .inl (upd f x.toNatClampNeg y))) = ch') (hcs : cs.set i ch' = cs') (d : decode cc pc = .ok (.iastore, 1))
    (kk : ∀ (H1 : Heap) (locs1 : List Loc), kp g cs' H1 → kd A cs' → va_S A H0 H1 locs1 → W p l e R s m args below meth c H1 locs1 cells slots Q (F0 m (pc + 1) ls rest)) : W p l e R s m args below meth c H locs cells slots Q (F0 m pc ls (.int y :: .int x :: .ref a :: rest)) := by
  obtain ⟨k, h1, h2⟩ := k_loc hch he
  subst hst; subst hcs
  refine va_iast C.1.1 C.1.2.1 C.2.1.1 hP hD hS k 2 h1 rfl hi d (fun H1 locs1 hP hD hS => ?_)
  rw [h2] at hP hD
  exact kk H1 locs1 hP hD hS
theorem kg_cald (C : kC p c cc s m args meth own g nL ret) {a i q n : Nat} {ch : va_W} {f : Nat → Int32} {x : Int32} (hP : kp g cs H) (hch : cs[i]? = some ch) (he : ch[q]? = some (a, .inl (g.2.1 1, n, .inl f))) (hi : vp_in x n) (d : decode cc pc = .ok (.caload, 1))
    (kk : W p l e R s m args below meth c H locs cells slots Q (F0 m (pc + 1) ls (.int (f x.toNatClampNeg) :: rest))) : W p l e R s m args below meth c H locs cells slots Q (F0 m pc ls (.int x :: .ref a :: rest)) := by
  obtain ⟨k, h1, -⟩ := k_loc hch he
  exact va_cald C.1.1 C.1.2.1 C.2.1.1 hP k 1 h1 rfl hi d kk
theorem kg_alen (C : kC p c cc s m args meth own g nL ret) {a i q n : Nat} {ch : va_W} {f : Nat → Int32} {v : Int32} (hP : kp g cs H) (hch : cs[i]? = some ch) (he : ch[q]? = some (a, .inl (g.2.1 2, n, .inl f))) (hv : Int32.ofNat n = v) (d : decode cc pc = .ok (.arraylength, 1))
    (kk : W p l e R s m args below meth c H locs cells slots Q (F0 m (pc + 1) ls (.int v :: rest))) : W p l e R s m args below meth c H locs cells slots Q (F0 m pc ls (.ref a :: rest)) := by
  obtain ⟨k, h1, -⟩ := k_loc hch he
  exact va_alen C.1.1 C.1.2.1 C.2.1.1 hP k 2 h1 (ty := .int) rfl hv d kk
/-- the static arrays -/
theorem kg_tab (C : kC p c cc s m args meth own g nL ret) {index : Nat} (i : Nat) (hi : i < 4) (hE : kE g A s s.heap) (hS : va_S A s.heap H locs) (hlink : Cond.fieldLink own index "SpiceScale" (k_tn i) "[I" ∈ kW) (d : decode cc pc = .ok (.getstatic index, 3))
    (kk : W p l e R s m args below meth c H locs cells slots Q (F0 m (pc + 3) ls (.ref (g.2.2 i) :: rest))) : W p l e R s m args below meth c H locs cells slots Q (F0 m pc ls rest) :=
  va_gets C.1.1 C.1.2.1 (hE.2.2.2.1 i hi).1 hS C.1.2.2.2.1 (C.1.2.2.2.2 _ hlink) (fun _ h => h) d kk
theorem kg_tabN (C : kC p c cc s m args meth own g nL ret) {index : Nat} (i : Nat) (hi : i < 4) (hE : kE g A s s.heap) (hS : va_S A s.heap H locs) (hlink : Cond.fieldLinkNest own index "SpiceScale" (k_tn i) "[I" "SpiceScale" ∈ k_nest) (d : decode cc pc = .ok (.getstatic index, 3))
    (kk : W p l e R s m args below meth c H locs cells slots Q (F0 m (pc + 3) ls (.ref (g.2.2 i) :: rest))) : W p l e R s m args below meth c H locs cells slots Q (F0 m pc ls rest) :=
  va_getsN C.1.1 C.1.2.1 (hE.2.2.2.1 i hi).1 hS C.1.2.2.2.1 (va_Nw.use rfl (C.2.1.2 _ hlink)) (fun _ h => h) d kk
theorem kg_tald (C : kC p c cc s m args meth own g nL ret) (i : Nat) (hi : i < 4) {x : Int32} (hE : kE g A s s.heap) (hS : va_S A s.heap H locs) (hin : vp_in x (k_tl i)) (d : decode cc pc = .ok (.iaload, 1))
    (kk : W p l e R s m args below meth c H locs cells slots Q (F0 m (pc + 1) ls (.int (k_tab i x.toNatClampNeg) :: rest))) : W p l e R s m args below meth c H locs cells slots Q (F0 m pc ls (.int x :: .ref (g.2.2 i) :: rest)) :=
  va_ti C.1.1 C.1.2.1 (hE.2.2.2.1 i hi).2 hS hin rfl d kk
/-! calls -/
theorem k_recv (C : kC p c cc s m args meth own g nL ret) {Cn : String} {T : u_T} {N ci a i q : Nat} {ty0 : Nat → FieldType} {ch : va_W} {fs : List Value} (hF : kFl Cn T N ci ty0) (hP : kp g cs H) (hch : cs[i]? = some ch) (he : ch[q]? = some (a, .inr (ci, fs))) : ∃ cell : Cell, H[a]? = some cell ∧ cell.vm.isStatics = false ∧ s.vm.findClass Cn = some cell.cls := by
  obtain ⟨n, hn, -⟩ := k_loc hch he
  exact va_recv C.2.1.1 hP hF.1 hn
abbrev kSt (rest : List Value) : Prop := Nat.ble ((rest.map fun v => v.category).sum) 8 = true
theorem kR_back {y : MethodName} {ws : List Cond} {f lo : Nat} {av : List Value} {wc : List va_W} {v : Int32} {y2 : MethodName}
    (hr : va_Run p l e R s m args below meth c H locs cells slots 0 0 (F0 m pc ls st) rest (vp_Si (fun r => r = v) av.toArray) (fun _ => False))
    (kk : W p l e R s m args below meth c H locs cells slots Q (F0 m (pc + 3) ls (.int v :: rest))) : W p l e R s m args below meth c H locs cells slots Q (F0 m pc ls st) := by
  intro T hT X
  obtain ⟨v2, st₀, t, T', L, h0, X', hL, e1, e2, ⟨r, hv, hp, hh⟩, stp⟩ := hr T hT X
  cases hv
  subst hp
  obtain ⟨t2, a1, b1⟩ := kk T' (by rw [e1, hh, h0]) (Stand.forget X' (fun q h => (hL q h).elim))
  exact ⟨t2, stp t2 a1, b1⟩
/-- texts of the forms -/
theorem kg_sval (C : kC p c cc s m args meth own g nL ret) {index : Nat} (i : Nat) (hi : i < 5) (hE : kE g A s s.heap) (hS : va_S A s.heap H locs) (hlink : Cond.fieldLink own index "java/lang/String" "value" "[B" ∈ kW) (d : decode cc pc = .ok (.getfield index, 3))
    (kk : W p l e R s m args below meth c H locs cells slots Q (F0 m (pc + 3) ls (.ref (g.2.2 (60 + i)) :: rest))) : W p l e R s m args below meth c H locs cells slots Q (F0 m pc ls (.ref (g.2.2 (50 + i)) :: rest)) :=
  vk_getf C.1.1 C.1.2.1 (hE.2.2.2.2.2.2.2.2.1.1 i hi).2.2.1 hS C.1.2.2.2.1 (C.1.2.2.2.2 _ hlink) (fun _ h => h) d kk
theorem kg_scod (C : kC p c cc s m args meth own g nL ret) {index : Nat} (i : Nat) (hi : i < 5) (hE : kE g A s s.heap) (hS : va_S A s.heap H locs) (hlink : Cond.fieldLink own index "java/lang/String" "coder" "B" ∈ kW) (d : decode cc pc = .ok (.getfield index, 3))
    (kk : W p l e R s m args below meth c H locs cells slots Q (F0 m (pc + 3) ls (.int 0 :: rest))) : W p l e R s m args below meth c H locs cells slots Q (F0 m pc ls (.ref (g.2.2 (50 + i)) :: rest)) :=
  vk_getf C.1.1 C.1.2.1 (hE.2.2.2.2.2.2.2.2.1.1 i hi).2.1 hS C.1.2.2.2.1 (C.1.2.2.2.2 _ hlink) (fun _ h => h) d kk
theorem kg_slen (C : kC p c cc s m args meth own g nL ret) (i : Nat) (hi : i < 5) (hE : kE g A s s.heap) (hS : va_S A s.heap H locs) (d : decode cc pc = .ok (.arraylength, 1))
    (kk : W p l e R s m args below meth c H locs cells slots Q (F0 m (pc + 1) ls (.int (nI (k_fl.getD i 0)) :: rest))) : W p l e R s m args below meth c H locs cells slots Q (F0 m pc ls (.ref (g.2.2 (60 + i)) :: rest)) :=
  va_tlen C.1.1 C.1.2.1 (hE.2.2.2.2.2.2.2.2.1.1 i hi).2.2.2 hS rfl d kk
theorem kg_sald (C : kC p c cc s m args meth own g nL ret) (i : Nat) (hi : i < 5) {x : Int32} (hE : kE g A s s.heap) (hS : va_S A s.heap H locs) (hin : vp_in x (k_fl.getD i 0)) (d : decode cc pc = .ok (.baload, 1))
    (kk : W p l e R s m args below meth c H locs cells slots Q (F0 m (pc + 1) ls (.int ((k_fb.getD i []).getD x.toNatClampNeg 0) :: rest))) : W p l e R s m args below meth c H locs cells slots Q (F0 m pc ls (.int x :: .ref (g.2.2 (60 + i)) :: rest)) :=
  va_tb C.1.1 C.1.2.1 (hE.2.2.2.2.2.2.2.2.1.1 i hi).2.2.2 hS hin rfl d kk
theorem kg_compact (C : kC p c cc s m args meth own g nL ret) {index : Nat} {ref : String} (hr : ref = "java/lang/String") (hE : kE g A s s.heap) (hS : va_S A s.heap H locs) (hlink : Cond.fieldLink own index ref "COMPACT_STRINGS" "Z" ∈ kW) (d : decode cc pc = .ok (.getstatic index, 3))
    (kk : W p l e R s m args below meth c H locs cells slots Q (F0 m (pc + 3) ls (.int 1 :: rest))) : W p l e R s m args below meth c H locs cells slots Q (F0 m pc ls rest) :=
  va_gets C.1.1 C.1.2.1 hE.2.2.2.2.1 hS C.1.2.2.2.1 (C.1.2.2.2.2 _ hlink) (fun _ h => by rw [hr]; exact h) d kk
theorem kg_fmt (C : kC p c cc s m args meth own g nL ret) {index : Nat} (hE : kE g A s s.heap) (hS : va_S A s.heap H locs) (hlink : Cond.fieldLink own index "jdk/internal/util/Preconditions" "SIOOBE_FORMATTER" "Ljava/util/function/BiFunction;" ∈ kW) (d : decode cc pc = .ok (.getstatic index, 3))
    (kk : W p l e R s m args below meth c H locs cells slots Q (F0 m (pc + 3) ls (kFm g :: rest))) : W p l e R s m args below meth c H locs cells slots Q (F0 m pc ls rest) :=
  va_gets C.1.1 C.1.2.1 hE.2.2.2.2.2.2.2.2.2.1 hS C.1.2.2.2.1 (C.1.2.2.2.2 _ hlink) (fun _ h => h) d kk
theorem kg_ldcs (C : kC p c cc s m args meth own g nL ret) {index a : Nat} {tx : String} (hE : kE g A s s.heap) (hm : (own, index, tx, a) ∈ k_strs) (d : decode cc pc = .ok (.ldc index, 2))
    (kk : W p l e R s m args below meth c H locs cells slots Q (F0 m (pc + 2) ls (.ref (g.2.2 a) :: rest))) : W p l e R s m args below meth c H locs cells slots Q (F0 m pc ls rest) :=
  va_ldcS C.1.1 C.1.2.1 C.1.2.2.2.1 (hE.2.2.1 _ hm) d kk
theorem k_srecv {i : Nat} (hi : i < 5) (hE : kE g A s s.heap) (hS : va_S A s.heap H locs) : ∃ cell : Cell, H[g.2.2 (50 + i)]? = some cell ∧ cell.vm.isStatics = false ∧ s.vm.findClass "java/lang/String" = some cell.cls :=
  vk_recv (adK := fun i => g.2.2 (50 + i)) (i := i) hE.2.2.2.2.2.2.2.2.1 hi hS
/-- a method that only reads, any answer -/
def kO (l : Launch) (y : MethodName) (ws : List Cond) (f lo : Nat) (g : kG) (av : List Value) (cs : List va_W) (v : Option Value) : Prop :=
  Met l y ws (kRm f 0 0 lo) (va_Pc av (fun U => kp g cs U.heap ∧ kE g (fun _ => False) U U.heap)) (fun _ st o t => o = .returned v ∧ t.heap = st.heap) 0 0 (fun _ => False)
theorem kO_of {y : MethodName} {ws : List Cond} {f lo : Nat} {av : List Value} {v : Option Value} {lv : List (Nat × Value)} (hy : plainName y.cls = true) (hw : ws = Cond.code y cc nL ret :: kW) (hav : (lg_sl av).length ≤ nL) (hlv : lv_args 0 av = lv)
    (body : ∀ (p : Program) (e : Env) (s : State) (m : MethodId) (args : Array Value) (below : List Frame) (meth : Method) (c : Code) (ls : Array Slot), kC p c cc s m args meth y.cls g nL ret → kp g cs s.heap → kE g (fun _ => False) s s.heap → lv_has ls nL lv →
      W p l e (kRm f 0 0 lo) s m args below meth c s.heap [] 0 0 (MQ below (fun _ st o t => o = .returned v ∧ t.heap = st.heap) args s 0 0 (fun _ => False)) (F0 m 0 ls [])) : kO l y ws f lo g av cs v := by
  refine Met.ofW (cc := cc) (maxL := nL) (ret := ret) hy hw ?_
  intro p e s m args below meth c s₁ B hml hv
  obtain ⟨rfl, hP, hE⟩ := hv
  have hl := lv_entry av (n := nL) hav
  rw [lg_entry_eq]
  subst hlv
  exact body p e s m _ below meth c _ ⟨⟨B.exec, B.bytes, hml, findClass_of_methodNamed B.named, fun w h => atoms_spec (ws := ws) B.pre w (by rw [hw]; exact List.mem_cons_of_mem _ h)⟩, ⟨hE.1, hE.2.1⟩, B.returns, B.notSynchronized⟩ hP hE hl
theorem kO_vret (C : kC p c cc s m args meth own g nL none) (d : decode cc pc = .ok (.return_, 1)) : W p l e R s m args below meth c s.heap [] 0 0 (MQ below (fun _ st o t => o = .returned none ∧ t.heap = st.heap) args s 0 0 (fun _ => False)) (F0 m pc ls []) :=
  W.vret C.1.1 C.1.2.1 C.2.2.1 (fun t ht _ => ⟨rfl, ht⟩) (fun q hq => absurd hq List.not_mem_nil) d C.2.2.2
theorem kO_aret {v v2 : Value} {rt : FieldType} (C : kC p c cc s m args meth own g nL (some rt)) (hrt : (∃ n, rt = .object n) ∨ ∃ t, rt = .array t) (hv : v = .null ∨ ∃ a, v = .ref a) (he : v = v2) (d : decode cc pc = .ok (.areturn, 1)) : W p l e R s m args below meth c s.heap [] 0 0 (MQ below (fun _ st o t => o = .returned (some v2) ∧ t.heap = st.heap) args s 0 0 (fun _ => False)) (F0 m pc ls [v]) :=
  W.aret C.1.1 C.1.2.1 C.2.2.1 hrt hv (fun t ht _ => ⟨by rw [he], ht⟩) (fun q hq => absurd hq List.not_mem_nil) d C.2.2.2
theorem kO_back {v : Option Value} {qa : State → Outcome → State → Prop} (hqa : ∀ st o t, qa st o t → o = .returned v ∧ t.heap = st.heap)
    (hr : va_Run p l e R s m args below meth c H locs cells slots 0 0 (F0 m pc ls st) rest qa (fun _ => False))
    (kk : W p l e R s m args below meth c H locs cells slots Q (F0 m (pc + 3) ls (v.toList ++ rest))) : W p l e R s m args below meth c H locs cells slots Q (F0 m pc ls st) := by
  intro T hT X
  obtain ⟨v2, st₀, t, T', L, h0, X', hL, e1, e2, hq, stp⟩ := hr T hT X
  obtain ⟨hv, hh⟩ := hqa _ _ _ hq
  cases hv
  obtain ⟨t2, a1, b1⟩ := kk T' (by rw [e1, hh, h0]) (Stand.forget X' (fun q h => (hL q h).elim))
  exact ⟨t2, stp t2 a1, b1⟩
theorem kO_S (C : kC p c cc s m args meth own g nL ret) {y : MethodName} {ws : List Cond} {index f lo maxL n : Nat} {bytes : ByteArray} {r2 : Option FieldType} {As : List Value} {wc : List va_W} {v : Option Value} (hM : kO l y ws f lo g As wc v)
    (cw : CallB R s args own index y bytes maxL r2 ws (kRm f 0 0 lo) 0 0 n ∧ (Cond.static y).before args s = true) (hE : kE g A s s.heap) (hS : va_S A s.heap H locs) (hPc : kp g wc H)
    (hn : As.length = n) (hsz : ls.size = nL) (hst : st = As.reverse ++ rest) (hW : kSt rest) (d : decode cc pc = .ok (.invokestatic index, 3)) (hf : cells ≤ R.cells ∧ slots ≤ R.slots)
    (kk : W p l e R s m args below meth c H locs cells slots Q (F0 m (pc + 3) ls (v.toList ++ rest))) : W p l e R s m args below meth c H locs cells slots Q (F0 m pc ls st) := by
  refine kO_back (v := v) (qa := fun st o t => o = .returned v ∧ t.heap = st.heap) (fun _ _ _ h => h) (va_runS (As := As) (rest := rest) C.1 hM cw ⟨kR_blind, fun U hU hW => ⟨rfl, by rw [hU]; exact hPc, hE.call hS (fun _ q => q.elim) hU hW⟩⟩ rfl hn hsz hst (lv_room (Nat.le_of_ble_eq_true hW)) d hf) kk
/-- an instance method of a class of ours that only reads -/
theorem kR_V (C : kC p c cc s m args meth own g nL ret) {y : MethodName} {ws : List Cond} {Cn : String} {index b f lo maxL n : Nat} {bytes : ByteArray} {r2 : Option FieldType} {As : List Value} {wc : List va_W} {v : Int32} (hM : kR l y ws f lo g (.ref b :: As) wc v)
    (cw : CallW R s args own Cn index y bytes maxL r2 ws (kRm f 0 0 lo) 0 0 n) (hE : kE g A s s.heap) (hS : va_S A s.heap H locs) (hPc : kp g wc H) (hrc : ∃ cell : Cell, H[b]? = some cell ∧ cell.vm.isStatics = false ∧ s.vm.findClass Cn = some cell.cls)
    (hn : As.length = n) (hsz : ls.size = nL) (hst : st = As.reverse ++ .ref b :: rest) (hW : kSt rest) (d : decode cc pc = .ok (.invokevirtual index, 3)) (hf : cells ≤ R.cells ∧ slots ≤ R.slots)
    (kk : W p l e R s m args below meth c H locs cells slots Q (F0 m (pc + 3) ls (.int v :: rest))) : W p l e R s m args below meth c H locs cells slots Q (F0 m pc ls st) := by
  refine kR_back (y := y) (ws := ws) (f := f) (lo := lo) (av := .ref b :: As) (wc := wc) (y2 := y) (va_runV (As := As) (rest := rest) C.1 hM cw ⟨kR_blind, hrc, fun U hU hW => ⟨rfl, by rw [hU]; exact hPc, hE.call hS (fun _ q => q.elim) hU hW⟩⟩ rfl hn hsz hst (lv_room (Nat.le_of_ble_eq_true hW)) d hf) kk
theorem kR_VN (C : kC p c cc s m args meth own g nL ret) {y : MethodName} {ws : List Cond} {Cn host : String} {index b f lo maxL n : Nat} {bytes : ByteArray} {r2 : Option FieldType} {As : List Value} {wc : List va_W} {v : Int32} (hM : kR l y ws f lo g (.ref b :: As) wc v)
    (cw : va_CN R s args own index y host bytes maxL r2 ws (kRm f 0 0 lo) 0 0 n ∧ (Cond.instanceMethod y).before args s = true ∧ (Cond.selects Cn y y).before args s = true) (hE : kE g A s s.heap) (hS : va_S A s.heap H locs) (hPc : kp g wc H) (hrc : ∃ cell : Cell, H[b]? = some cell ∧ cell.vm.isStatics = false ∧ s.vm.findClass Cn = some cell.cls)
    (hn : As.length = n) (hsz : ls.size = nL) (hst : st = As.reverse ++ .ref b :: rest) (hW : kSt rest) (d : decode cc pc = .ok (.invokevirtual index, 3)) (hf : cells ≤ R.cells ∧ slots ≤ R.slots)
    (kk : W p l e R s m args below meth c H locs cells slots Q (F0 m (pc + 3) ls (.int v :: rest))) : W p l e R s m args below meth c H locs cells slots Q (F0 m pc ls st) := by
  refine kR_back (y := y) (ws := ws) (f := f) (lo := lo) (av := .ref b :: As) (wc := wc) (y2 := y) (va_runVN (As := As) (rest := rest) C.1 hM cw ⟨kR_blind, hrc, fun U hU hW => ⟨rfl, by rw [hU]; exact hPc, hE.call hS (fun _ q => q.elim) hU hW⟩⟩ rfl hn hsz hst (lv_room (Nat.le_of_ble_eq_true hW)) d hf) kk
theorem kR_S (C : kC p c cc s m args meth own g nL ret) {y : MethodName} {ws : List Cond} {index f lo maxL n : Nat} {bytes : ByteArray} {r2 : Option FieldType} {As : List Value} {wc : List va_W} {v : Int32} (hM : kR l y ws f lo g As wc v)
    (cw : CallB R s args own index y bytes maxL r2 ws (kRm f 0 0 lo) 0 0 n ∧ (Cond.static y).before args s = true) (hE : kE g A s s.heap) (hS : va_S A s.heap H locs) (hPc : kp g wc H)
    (hn : As.length = n) (hsz : ls.size = nL) (hst : st = As.reverse ++ rest) (hW : kSt rest) (d : decode cc pc = .ok (.invokestatic index, 3)) (hf : cells ≤ R.cells ∧ slots ≤ R.slots)
    (kk : W p l e R s m args below meth c H locs cells slots Q (F0 m (pc + 3) ls (.int v :: rest))) : W p l e R s m args below meth c H locs cells slots Q (F0 m pc ls st) := by
  refine kR_back (y := y) (ws := ws) (f := f) (lo := lo) (av := As) (wc := wc) (y2 := y) (va_runS (As := As) (rest := rest) C.1 hM cw ⟨kR_blind, fun U hU hW => ⟨rfl, by rw [hU]; exact hPc, hE.call hS (fun _ q => q.elim) hU hW⟩⟩ rfl hn hsz hst (lv_room (Nat.le_of_ble_eq_true hW)) d hf) kk
theorem kR_SN (C : kC p c cc s m args meth own g nL ret) {y : MethodName} {ws : List Cond} {host : String} {index f lo maxL n : Nat} {bytes : ByteArray} {r2 : Option FieldType} {As : List Value} {wc : List va_W} {v : Int32} (hM : kR l y ws f lo g As wc v)
    (cw : va_CN R s args own index y host bytes maxL r2 ws (kRm f 0 0 lo) 0 0 n ∧ (Cond.static y).before args s = true ∧ True) (hE : kE g A s s.heap) (hS : va_S A s.heap H locs) (hPc : kp g wc H)
    (hn : As.length = n) (hsz : ls.size = nL) (hst : st = As.reverse ++ rest) (hW : kSt rest) (d : decode cc pc = .ok (.invokestatic index, 3)) (hf : cells ≤ R.cells ∧ slots ≤ R.slots)
    (kk : W p l e R s m args below meth c H locs cells slots Q (F0 m (pc + 3) ls (.int v :: rest))) : W p l e R s m args below meth c H locs cells slots Q (F0 m pc ls st) := by
  refine kR_back (y := y) (ws := ws) (f := f) (lo := lo) (av := As) (wc := wc) (y2 := y) (va_runSN (As := As) (rest := rest) C.1 hM cw ⟨kR_blind, fun U hU hW => ⟨rfl, by rw [hU]; exact hPc, hE.call hS (fun _ q => q.elim) hU hW⟩⟩ rfl hn hsz hst (lv_room (Nat.le_of_ble_eq_true hW)) d hf) kk
/-- behind a call that changes: the caller's chunks, the callee's -/
theorem kM_pre {wc : List va_W} {av : List Value} (hE : kE g A s s.heap) (hS : va_S A s.heap H locs) (hA : ∀ q, s.heap.size ≤ q → A q) (hP : kp g cs H) (hD : kd A cs) (iC : List Nat) (hC : iC.map (fun i => cs[i]?) = wc.map some) (hn : va_nd iC = true) : ∀ U : State, U.heap = H → s.WarmedH U.vm → kPre g av wc H.size av.toArray U :=
  fun U hU hW => ⟨rfl, by rw [hU], by rw [hU]; exact hP.pick iC hC, (hD.pick iC hn hC).weaken (fun _ _ => trivial), hE.call hS (k_free hD hS hA iC hC) hU hW⟩
theorem kM_backi {wc wr : List va_W} {post : Int32 → List va_W → Prop} {av : List Value} {mc ms : Nat} (hr : va_Run p l e R s m args below meth c H locs cells slots mc ms (F0 m pc ls st) rest (kQi g post (va_A wc.flatten H.size) av.toArray) (va_A wc.flatten H.size))
    (hS : va_S A s.heap H locs) (hA : ∀ q, s.heap.size ≤ q → A q) (hP : kp g cs H) (hD : kd A cs) (iC iR : List Nat) (hC : iC.map (fun i => cs[i]?) = wc.map some) (hR : iR.map (fun i => cs[i]?) = wr.map some) (hn : va_nd iR = true) (hdis : ∀ i ∈ iR, i ∉ iC)
    (kk : ∀ (r : Int32) (u : List va_W) (H1 : Heap) (locs1 : List Loc), post r u → kp g (wr ++ u) H1 → kd A (wr ++ u) → va_S A s.heap H1 locs1 → W p l e R s m args below meth c H1 locs1 (cells + mc) (slots + ms) Q (F0 m (pc + 3) ls (.int r :: rest))) : W p l e R s m args below meth c H locs cells slots Q (F0 m pc ls st) := by
  have hF := k_free hD hS hA iC hC
  refine va_calli hr hS (fun q _ h => hF q h) hF (fun r u t H1 locs ht hvm hw hB hz1 hk1 hS => ?_)
  obtain ⟨hP1, hD1⟩ := hB
  rw [ht] at hP1
  obtain ⟨hP2, hD2⟩ := k_join hP hD iC iR hC hR hn hdis hk1 hF hP1 hD1
  exact kk r u H1 locs hw hP2 hD2 hS
theorem kM_backv {wc wr : List va_W} {post : List va_W → Prop} {av : List Value} {mc ms : Nat} (hr : va_Run p l e R s m args below meth c H locs cells slots mc ms (F0 m pc ls st) rest (kQv g post (va_A wc.flatten H.size) av.toArray) (va_A wc.flatten H.size))
    (hS : va_S A s.heap H locs) (hA : ∀ q, s.heap.size ≤ q → A q) (hP : kp g cs H) (hD : kd A cs) (iC iR : List Nat) (hC : iC.map (fun i => cs[i]?) = wc.map some) (hR : iR.map (fun i => cs[i]?) = wr.map some) (hn : va_nd iR = true) (hdis : ∀ i ∈ iR, i ∉ iC)
    (kk : ∀ (u : List va_W) (H1 : Heap) (locs1 : List Loc), post u → kp g (wr ++ u) H1 → kd A (wr ++ u) → va_S A s.heap H1 locs1 → W p l e R s m args below meth c H1 locs1 (cells + mc) (slots + ms) Q (F0 m (pc + 3) ls rest)) : W p l e R s m args below meth c H locs cells slots Q (F0 m pc ls st) := by
  have hF := k_free hD hS hA iC hC
  refine va_callv hr hS (fun q _ h => hF q h) hF (fun u t H1 locs ht hvm hw hB hz1 hk1 hS => ?_)
  obtain ⟨hP1, hD1⟩ := hB
  rw [ht] at hP1
  obtain ⟨hP2, hD2⟩ := k_join hP hD iC iR hC hR hn hdis hk1 hF hP1 hD1
  exact kk u H1 locs hw hP2 hD2 hS
theorem kM_V (C : kC p c cc s m args meth own g nL ret) {y : MethodName} {ws : List Cond} {Cn : String} {index b f lo mc ms maxL n : Nat} {bytes : ByteArray} {r2 : Option FieldType} {As : List Value} {wc wr : List va_W} {post : Int32 → List va_W → Prop} (hM : kM l y ws f lo mc ms g (.ref b :: As) wc post)
    (cw : CallW R s args own Cn index y bytes maxL r2 ws (kRm f mc ms lo) mc ms n) (hE : kE g A s s.heap) (hS : va_S A s.heap H locs) (hA : ∀ q, s.heap.size ≤ q → A q) (hP : kp g cs H) (hD : kd A cs) (iC iR : List Nat) (hC : iC.map (fun i => cs[i]?) = wc.map some) (hR : iR.map (fun i => cs[i]?) = wr.map some) (hnd : va_nd iC = true ∧ va_nd iR = true ∧ ∀ i ∈ iR, i ∉ iC) (hrc : ∃ cell : Cell, H[b]? = some cell ∧ cell.vm.isStatics = false ∧ s.vm.findClass Cn = some cell.cls)
    (hn : As.length = n) (hsz : ls.size = nL) (hst : st = As.reverse ++ .ref b :: rest) (hW : kSt rest) (d : decode cc pc = .ok (.invokevirtual index, 3)) (hf : cells + mc ≤ R.cells ∧ slots + ms ≤ R.slots)
    (kk : ∀ (r : Int32) (u : List va_W) (H1 : Heap) (locs1 : List Loc), post r u → kp g (wr ++ u) H1 → kd A (wr ++ u) → va_S A s.heap H1 locs1 → W p l e R s m args below meth c H1 locs1 (cells + mc) (slots + ms) Q (F0 m (pc + 3) ls (.int r :: rest))) : W p l e R s m args below meth c H locs cells slots Q (F0 m pc ls st) :=
  kM_backi (av := .ref b :: As) (va_runV (As := As) (rest := rest) C.1 (hM H.size) cw ⟨kPre_blind, hrc, kM_pre hE hS hA hP hD iC hC hnd.1⟩ rfl hn hsz hst (lv_room (Nat.le_of_ble_eq_true hW)) d hf) hS hA hP hD iC iR hC hR hnd.2.1 hnd.2.2 kk
theorem kM_VN (C : kC p c cc s m args meth own g nL ret) {y : MethodName} {ws : List Cond} {Cn host : String} {index b f lo mc ms maxL n : Nat} {bytes : ByteArray} {r2 : Option FieldType} {As : List Value} {wc wr : List va_W} {post : Int32 → List va_W → Prop} (hM : kM l y ws f lo mc ms g (.ref b :: As) wc post)
    (cw : va_CN R s args own index y host bytes maxL r2 ws (kRm f mc ms lo) mc ms n ∧ (Cond.instanceMethod y).before args s = true ∧ (Cond.selects Cn y y).before args s = true) (hE : kE g A s s.heap) (hS : va_S A s.heap H locs) (hA : ∀ q, s.heap.size ≤ q → A q) (hP : kp g cs H) (hD : kd A cs) (iC iR : List Nat) (hC : iC.map (fun i => cs[i]?) = wc.map some) (hR : iR.map (fun i => cs[i]?) = wr.map some) (hnd : va_nd iC = true ∧ va_nd iR = true ∧ ∀ i ∈ iR, i ∉ iC) (hrc : ∃ cell : Cell, H[b]? = some cell ∧ cell.vm.isStatics = false ∧ s.vm.findClass Cn = some cell.cls)
    (hn : As.length = n) (hsz : ls.size = nL) (hst : st = As.reverse ++ .ref b :: rest) (hW : kSt rest) (d : decode cc pc = .ok (.invokevirtual index, 3)) (hf : cells + mc ≤ R.cells ∧ slots + ms ≤ R.slots)
    (kk : ∀ (r : Int32) (u : List va_W) (H1 : Heap) (locs1 : List Loc), post r u → kp g (wr ++ u) H1 → kd A (wr ++ u) → va_S A s.heap H1 locs1 → W p l e R s m args below meth c H1 locs1 (cells + mc) (slots + ms) Q (F0 m (pc + 3) ls (.int r :: rest))) : W p l e R s m args below meth c H locs cells slots Q (F0 m pc ls st) :=
  kM_backi (av := .ref b :: As) (va_runVN (As := As) (rest := rest) C.1 (hM H.size) cw ⟨kPre_blind, hrc, kM_pre hE hS hA hP hD iC hC hnd.1⟩ rfl hn hsz hst (lv_room (Nat.le_of_ble_eq_true hW)) d hf) hS hA hP hD iC iR hC hR hnd.2.1 hnd.2.2 kk
theorem kV_V (C : kC p c cc s m args meth own g nL ret) {y : MethodName} {ws : List Cond} {Cn : String} {index b f lo mc ms maxL n : Nat} {bytes : ByteArray} {r2 : Option FieldType} {As : List Value} {wc wr : List va_W} {post : List va_W → Prop} (hM : kV l y ws f lo mc ms g (.ref b :: As) wc post)
    (cw : CallW R s args own Cn index y bytes maxL r2 ws (kRm f mc ms lo) mc ms n) (hE : kE g A s s.heap) (hS : va_S A s.heap H locs) (hA : ∀ q, s.heap.size ≤ q → A q) (hP : kp g cs H) (hD : kd A cs) (iC iR : List Nat) (hC : iC.map (fun i => cs[i]?) = wc.map some) (hR : iR.map (fun i => cs[i]?) = wr.map some) (hnd : va_nd iC = true ∧ va_nd iR = true ∧ ∀ i ∈ iR, i ∉ iC) (hrc : ∃ cell : Cell, H[b]? = some cell ∧ cell.vm.isStatics = false ∧ s.vm.findClass Cn = some cell.cls)
    (hn : As.length = n) (hsz : ls.size = nL) (hst : st = As.reverse ++ .ref b :: rest) (hW : kSt rest) (d : decode cc pc = .ok (.invokevirtual index, 3)) (hf : cells + mc ≤ R.cells ∧ slots + ms ≤ R.slots)
    (kk : ∀ (u : List va_W) (H1 : Heap) (locs1 : List Loc), post u → kp g (wr ++ u) H1 → kd A (wr ++ u) → va_S A s.heap H1 locs1 → W p l e R s m args below meth c H1 locs1 (cells + mc) (slots + ms) Q (F0 m (pc + 3) ls rest)) : W p l e R s m args below meth c H locs cells slots Q (F0 m pc ls st) :=
  kM_backv (av := .ref b :: As) (va_runV (As := As) (rest := rest) C.1 (hM H.size) cw ⟨kPre_blind, hrc, kM_pre hE hS hA hP hD iC hC hnd.1⟩ rfl hn hsz hst (lv_room (Nat.le_of_ble_eq_true hW)) d hf) hS hA hP hD iC iR hC hR hnd.2.1 hnd.2.2 kk
theorem kV_VN (C : kC p c cc s m args meth own g nL ret) {y : MethodName} {ws : List Cond} {Cn host : String} {index b f lo mc ms maxL n : Nat} {bytes : ByteArray} {r2 : Option FieldType} {As : List Value} {wc wr : List va_W} {post : List va_W → Prop} (hM : kV l y ws f lo mc ms g (.ref b :: As) wc post)
    (cw : va_CN R s args own index y host bytes maxL r2 ws (kRm f mc ms lo) mc ms n ∧ (Cond.instanceMethod y).before args s = true ∧ (Cond.selects Cn y y).before args s = true) (hE : kE g A s s.heap) (hS : va_S A s.heap H locs) (hA : ∀ q, s.heap.size ≤ q → A q) (hP : kp g cs H) (hD : kd A cs) (iC iR : List Nat) (hC : iC.map (fun i => cs[i]?) = wc.map some) (hR : iR.map (fun i => cs[i]?) = wr.map some) (hnd : va_nd iC = true ∧ va_nd iR = true ∧ ∀ i ∈ iR, i ∉ iC) (hrc : ∃ cell : Cell, H[b]? = some cell ∧ cell.vm.isStatics = false ∧ s.vm.findClass Cn = some cell.cls)
    (hn : As.length = n) (hsz : ls.size = nL) (hst : st = As.reverse ++ .ref b :: rest) (hW : kSt rest) (d : decode cc pc = .ok (.invokevirtual index, 3)) (hf : cells + mc ≤ R.cells ∧ slots + ms ≤ R.slots)
    (kk : ∀ (u : List va_W) (H1 : Heap) (locs1 : List Loc), post u → kp g (wr ++ u) H1 → kd A (wr ++ u) → va_S A s.heap H1 locs1 → W p l e R s m args below meth c H1 locs1 (cells + mc) (slots + ms) Q (F0 m (pc + 3) ls rest)) : W p l e R s m args below meth c H locs cells slots Q (F0 m pc ls st) :=
  kM_backv (av := .ref b :: As) (va_runVN (As := As) (rest := rest) C.1 (hM H.size) cw ⟨kPre_blind, hrc, kM_pre hE hS hA hP hD iC hC hnd.1⟩ rfl hn hsz hst (lv_room (Nat.le_of_ble_eq_true hW)) d hf) hS hA hP hD iC iR hC hR hnd.2.1 hnd.2.2 kk
end KROWS
/-! booleans as ints -/
def b2i (b : Bool) : Int32 := if b then 1 else 0
theorem b2i_nar (b : Bool) : narrow .boolean (.int (b2i b)) = .int (b2i b) := by cases b <;> rfl
theorem b2i_fit (b : Bool) : fits .boolean (.int (b2i b)) = true := by cases b <;> rfl
theorem b2i_eq0 {b : Bool} (h : b2i b = 0) : ¬ b = true := by cases b <;> simp_all [b2i]
theorem b2i_ne0 {b : Bool} (h : ¬ b2i b = 0) : b = true := by cases b <;> simp_all [b2i]
/-! loops that count -/
theorem k_asc {x y : Int32} {j N : Nat} (hx : x = nI j) (hy : y = nI N) (hj : j ≤ N) (hN : N < 2 ^ 31) (c : ¬ y ≤ x) : j < N := by
  rw [hx, hy] at c
  rcases Nat.lt_or_ge j N with h | h
  · exact h
  · exact absurd ((nI_leI hN (by omega)).mpr h) c
theorem k_vin {x : Int32} {j M : Nat} (hx : x = nI j) (h : j < M) (hM : M < 2 ^ 31) : vp_in x M := by rw [hx]; exact vp_in_nI h hM
theorem k_up {x : Int32} {j : Nat} (hx : x = nI j) : x + 1 = nI (j + 1) := by rw [hx]; exact nI_1 j
theorem k_desc {x : Int32} {j N : Nat} (hx : x + 1 = nI j) (hj : j ≤ N) (hN : N < 2 ^ 31) (c : ¬ x < 0) : ∃ i, j = i + 1 ∧ i < N ∧ x = nI i := by
  cases j with
  | zero =>
    have : x = -1 := by
      have h2 : x + 1 + (-1) = nI 0 + (-1) := by rw [hx]
      rw [Int32.add_assoc, show (1 : Int32) + (-1) = 0 from rfl, Int32.add_zero] at h2
      rw [h2]; rfl
    subst this
    exact absurd (by decide) c
  | succ i =>
    refine ⟨i, rfl, by omega, ?_⟩
    have h2 : x + 1 + (-1) = nI (i + 1) + (-1) := by rw [hx]
    rw [Int32.add_assoc, show (1 : Int32) + (-1) = 0 from rfl, Int32.add_zero, pk_m1] at h2
    exact h2
theorem k_down {x : Int32} {i : Nat} (hx : x = nI i) : x + (-1) + 1 = nI i := by
  rw [Int32.add_assoc, show (-1 : Int32) + 1 = 0 from rfl, Int32.add_zero]; exact hx
section KROWS2
variable {p : Program} {l : Launch} {e : Env} {R : Room} {s : State} {m : MethodId} {args : Array Value} {below : List Frame} {meth : Method} {c : Code} {H : Heap} {locs : List Loc} {cells slots : Nat} {Q : State → Prop}
variable {cc : ByteArray} {pc nL : Nat} {ls : Array Slot} {st rest : List Value} {A : Nat → Prop} {H0 : Heap} {g : kG} {cs : List va_W} {own : String} {ret : Option FieldType}
theorem kg_ialdK (C : kC p c cc s m args meth own g nL ret) {a i q n : Nat} {ch : va_W} {f : Nat → Int32} {x : Int32} (hP : kp g cs H) (hch : cs[i]? = some ch) (he : ch[q]? = some (a, .inl (g.2.1 2, n, .inl f))) {j : Nat} (hj : x.toNatClampNeg = j) (hi : vp_in x n) (d : decode cc pc = .ok (.iaload, 1))
    (kk : W p l e R s m args below meth c H locs cells slots Q (F0 m (pc + 1) ls (.int (f j) :: rest))) : W p l e R s m args below meth c H locs cells slots Q (F0 m pc ls (.int x :: .ref a :: rest)) := by
  subst hj
  exact kg_iald C hP hch he hi d kk
theorem kg_iastK (C : kC p c cc s m args meth own g nL ret) {a i q n : Nat} {ch : va_W} {f : Nat → Int32} {x y : Int32} {ch' : va_W} {cs' : List va_W} (hP : kp g cs H) (hD : kd A cs) (hS : va_S A H0 H locs) (hch : cs[i]? = some ch) (he : ch[q]? = some (a, .inl (g.2.1 2, n, .inl f))) {j : Nat} (hj : x.toNatClampNeg = j) (hi : vp_in x n) (hst : ch.set q (a, .inl (g.2.1 2, n, .inl (upd f j y))) = ch') (hcs : cs.set i ch' = cs') (d : decode cc pc = .ok (.iastore, 1))
    (kk : ∀ (H1 : Heap) (locs1 : List Loc), kp g cs' H1 → kd A cs' → va_S A H0 H1 locs1 → W p l e R s m args below meth c H1 locs1 cells slots Q (F0 m (pc + 1) ls rest)) : W p l e R s m args below meth c H locs cells slots Q (F0 m pc ls (.int y :: .int x :: .ref a :: rest)) := by
  subst hj
  exact kg_iast C hP hD hS hch he hi hst hcs d kk
theorem kg_cast (C : kC p c cc s m args meth own g nL ret) {a i q n : Nat} {ch : va_W} {f : Nat → Int32} {x y : Int32} {ch' : va_W} {cs' : List va_W} (hP : kp g cs H) (hD : kd A cs) (hS : va_S A H0 H locs) (hch : cs[i]? = some ch) (he : ch[q]? = some (a, .inl (g.2.1 1, n, .inl f))) (hi : vp_in x n) (hst : ch.set q (a, .inl (g.2.1 1, n, .inl (upd f x.toNatClampNeg (vp_nar .char y)))) = ch') (hcs : cs.set i ch' = cs') (d : decode cc pc = .ok (.castore, 1))
    (kk : ∀ (H1 : Heap) (locs1 : List Loc), kp g cs' H1 → kd A cs' → va_S A H0 H1 locs1 → W p l e R s m args below meth c H1 locs1 cells slots Q (F0 m (pc + 1) ls rest)) : W p l e R s m args below meth c H locs cells slots Q (F0 m pc ls (.int y :: .int x :: .ref a :: rest)) := by
  obtain ⟨k, h1, h2⟩ := k_loc hch he
  subst hst; subst hcs
  refine va_cast C.1.1 C.1.2.1 C.2.1.1 hP hD hS k 1 h1 rfl hi d (fun H1 locs1 hP hD hS => ?_)
  rw [h2] at hP hD
  exact kk H1 locs1 hP hD hS
end KROWS2
theorem k_off {x d : Int32} {c n N : Nat} (hd : d = nI c) (h : vp_in x n) (hN : c + n ≤ N) (hb : N < 2 ^ 31) : vp_in (d + x) N := by
  obtain ⟨j, hj, rfl⟩ := vp_in_of h (by omega)
  rw [hd, nI_add]
  exact vp_in_nI (by omega) hb
theorem k_offn {x d : Int32} {c n : Nat} (hd : d = nI c) (h : vp_in x n) (hb : c + n < 2 ^ 31) : (d + x).toNatClampNeg = c + x.toNatClampNeg := by
  obtain ⟨j, hj, rfl⟩ := vp_in_of h (by omega)
  rw [hd, nI_add, nI_clamp (by omega), nI_clamp (by omega)]
/-- a bag's number in the reference's row of numbers: 34 + 5 * bag + what -/
theorem k_of {x w : Int32} {c : Nat} (h : vp_in x 6) (hw : w = nI c) (hc : c < 5) : vp_in (34 + 5 * x + w) 64 := by
  obtain ⟨j, hj, rfl⟩ := vp_in_of h (by omega)
  rw [hw, show (34 : Int32) = nI 34 from rfl, show (5 : Int32) = nI 5 from rfl, pk_mul, nI_add, nI_add]
  exact vp_in_nI (by omega) (by omega)
theorem k_ofn {x w : Int32} {c : Nat} (h : vp_in x 6) (hw : w = nI c) (hc : c < 5) : (34 + 5 * x + w).toNatClampNeg = 34 + 5 * x.toNatClampNeg + c := by
  obtain ⟨j, hj, rfl⟩ := vp_in_of h (by omega)
  rw [hw, show (34 : Int32) = nI 34 from rfl, show (5 : Int32) = nI 5 from rfl, pk_mul, nI_add, nI_add, nI_clamp (by omega), nI_clamp (by omega)]
theorem k_cellcg {cA : ClassId} {n : Nat} {f f' : Nat → Int32} (h : ∀ j, j < n → f j = f' j) : vp_cell cA (n, .inl f) = vp_cell cA (n, .inl f') := by
  rw [vp_cell_i, vp_cell_i]
  unfold arrV
  congr 1
  apply congrArg
  funext j
  show Value.int (f j.1) = Value.int (f' j.1)
  rw [h j.1 j.2]
theorem k_setcg {D : va_G} {cl : List vw_C} {ws : va_W} {k a : Nat} {e e' : va_E} {H : Heap} (h : va_P D cl (ws.set k (a, e)) H) (hk : k < ws.length) (he : va_at D cl (a, e) H → va_at D cl (a, e') H) : va_P D cl (ws.set k (a, e')) H := by
  intro j q hq
  by_cases hj : j = k
  · subst hj
    rw [List.getElem?_set_self hk] at hq
    cases hq
    exact he (h j _ (List.getElem?_set_self hk))
  · rw [List.getElem?_set_ne (Ne.symm hj)] at hq
    exact h j q (by rw [List.getElem?_set_ne (Ne.symm hj)]; exact hq)
section KROWS3
variable {p : Program} {l : Launch} {e : Env} {R : Room} {s : State} {m : MethodId} {args : Array Value} {below : List Frame} {meth : Method} {c : Code} {H : Heap} {locs : List Loc} {cells slots : Nat} {Q : State → Prop}
variable {cc : ByteArray} {pc nL : Nat} {ls : Array Slot} {st rest : List Value} {A : Nat → Prop} {H0 : Heap} {g : kG} {cs : List va_W} {own : String} {ret : Option FieldType}
/-- System.arraycopy of a whole array of ints into another of the same length -/
theorem kg_copyi (C : kC p c cc s m args meth own g nL ret) (hsz : ls.size = nL) {index : Nat} (h1 : Cond.methodLink own index arraycopyName ∈ kW) (h2 : Cond.native arraycopyName ∈ kW) (h3 : Cond.static arraycopyName ∈ kW) (h4 : Cond.initialized "java/lang/System" ∈ kW) (hft : ∀ i : Int32, fits .int (.int i) = true)
    (hP : kp g cs H) (hD : kd A cs) (hS : va_S A H0 H locs) {i0 q0 i1 q1 a0 a1 n : Nat} {ch0 ch1 ch' : va_W} {f0 f1 : Nat → Int32} {cs' : List va_W} {x : Int32} (hc0 : cs[i0]? = some ch0) (he0 : ch0[q0]? = some (a0, .inl (g.2.1 2, n, .inl f0))) (hc1 : cs[i1]? = some ch1) (he1 : ch1[q1]? = some (a1, .inl (g.2.1 2, n, .inl f1))) (hx : x.toNatClampNeg = n) (hx0 : ¬ x < 0)
    (hst : ch1.set q1 (a1, .inl (g.2.1 2, n, .inl f0)) = ch') (hcs : cs.set i1 ch' = cs') (hfr : 1 ≤ R.frames) (hlo : (rest.map fun v => v.category).sum + (nativeFrameWords "java/lang/System" "arraycopy" 5 + 11) ≤ R.locals) (d : decode cc pc = .ok (.invokestatic index, 3))
    (kk : ∀ (H1 : Heap) (locs1 : List Loc), kp g cs' H1 → kd A cs' → va_S A H0 H1 locs1 → W p l e R s m args below meth c H1 locs1 cells slots Q (F0 m (pc + 3) ls rest)) : W p l e R s m args below meth c H locs cells slots Q (F0 m pc ls (.int x :: .int 0 :: .ref a1 :: .int 0 :: .ref a0 :: rest)) := by
  obtain ⟨k0, g0, -⟩ := k_loc hc0 he0
  obtain ⟨k1, g1, g2⟩ := k_loc hc1 he1
  subst hst; subst hcs
  have hts := C.1.2.2.2.2
  have z0 : (0 : Int32).toNatClampNeg = 0 := rfl
  refine va_copyi C.1.1 C.1.2.1 (by rw [C.1.2.2.1, hsz]) C.1.2.2.2.1 (hts _ h1) (hts _ h2) (hts _ h3) (hts _ h4) C.2.1.1 hP hD hS k0 k1 2 2 g0 g1 (ty := .int) rfl rfl rfl (by decide) (by decide) hx0 (by rw [z0, hx]; omega) (by rw [z0, hx]; omega) (fun i _ => hft _) hfr hlo d (fun H1 locs1 hP1 hD1 hS1 => ?_)
  rw [z0, hx] at hP1 hD1
  have hk : k1 < cs.flatten.length := (List.getElem?_eq_some_iff.mp g1).1
  have hcg : vp_cell (g.2.1 2) (n, .inl (va_cpy f0 f1 0 0 n)) = vp_cell (g.2.1 2) (n, .inl f0) := k_cellcg (fun j hj => by
    rw [pk_cpy_in (by omega) (by omega)]
    show f0 (0 + (j - 0)) = f0 j
    rw [Nat.zero_add, Nat.sub_zero])
  have hP2 := k_setcg (e' := .inl (g.2.1 2, n, .inl f0)) hP1 hk (fun h => Eq.trans h (congrArg some hcg))
  have hD2 : va_D A (cs.flatten.set k1 (a1, .inl (g.2.1 2, n, .inl f0))) := hD.set g1
  rw [g2] at hP2 hD2
  exact kk H1 locs1 hP2 hD2 hS1
end KROWS3
