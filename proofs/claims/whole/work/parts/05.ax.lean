-- ===== the abstract machine: places instead of addresses =====
abbrev CL : List vw_C := [(RX0, TX0, 4), (RX1, TX1, 0), (RX2, TX2, 0), (RX3, TX3, 0), (RX4, TX4, 7), (RX5, TX5, 0), (RX6, TX6, 2), (RX7, TX7, 0), (RX8, TX8, 0), (RX9, TX9, 0), (RX10, TX10, 17), (RX11, TX11, 11), (RX12, TX12, 49)]
def tyF (ci : Nat) : Nat → FieldType := match ci with
  | 0 => tyX0
  | 4 => tyX4
  | 6 => tyX6
  | 10 => tyX10
  | 11 => tyX11
  | 12 => tyX12
  | _ => tyX1
def nF (ci : Nat) : Nat := match ci with
  | 0 => 4
  | 4 => 7
  | 6 => 2
  | 10 => 17
  | 11 => 11
  | 12 => 49
  | _ => 0
abbrev Mt : Type := MethodName × ByteArray × Nat × Option FieldType
abbrev Sh : Type := Nat ⊕ (FieldType × Nat)
abbrev Zt : Type := Nat × (Nat → Option Sh) × (Nat → Nat → Option Nat)
abbrev Gt : Type := Nat → Nat → Int32
abbrev Lt : Type := Nat → Nat → Int64
abbrev Lv : Type := List (Nat × Value)
abbrev Qt : Type := Option Value → Zt → Gt → Lt → Prop
def up2 {α : Type} (G : Nat → Nat → α) (k i : Nat) (v : α) : Nat → Nat → α := fun a b => if a = k then (if b = i then v else G a b) else G a b
/-- a value: a reference names a place -/
def cv (ad : Nat → Nat) (v : Value) : Value := match v with
  | .ref k => .ref (ad k)
  | w => w
def cs (ad : Nat → Nat) : List Value → List Value
  | [] => []
  | v :: t => cv ad v :: cs ad t
def fv (ad : Nat → Nat) (ty : FieldType) (Z : Zt) (G : Gt) (L : Lt) (k i : Nat) : Value := match ty with
  | .long => .long (L k i)
  | .object _ => va_rf ((Z.2.2 k i).map ad)
  | .array _ => va_rf ((Z.2.2 k i).map ad)
  | _ => .int (G k i)
def av9 (ad : Nat → Nat) (ty : FieldType) (n : Nat) (Z : Zt) (G : Gt) (L : Lt) (k : Nat) : vp_A := match ty with
  | .long => (n, .inr (.inl (L k)))
  | .object _ => (n, .inr (.inr (.inr (.inr (fun j => (Z.2.2 k j).map ad)))))
  | .array _ => (n, .inr (.inr (.inr (.inr (fun j => (Z.2.2 k j).map ad)))))
  | _ => (n, .inl (G k))
def cellOf (tc : FieldType → ClassId) (ad : Nat → Nat) (Z : Zt) (G : Gt) (L : Lt) (k : Nat) : va_E := match Z.2.1 k with
  | some (.inl ci) => .inr (ci, (List.range (nF ci)).map (fun i => fv ad (tyF ci i) Z G L k i))
  | some (.inr q) => .inl (tc q.1, av9 ad q.1 q.2 Z G L k)
  | none => .inr (0, [])
def cw (tc : FieldType → ClassId) (ad : Nat → Nat) (Z : Zt) (G : Gt) (L : Lt) : va_W := (List.range Z.1).map (fun k => (ad k, cellOf tc ad Z G L k))
def WF (Z : Zt) : Prop := (∀ k, k < Z.1 → (Z.2.1 k).isSome = true) ∧ (∀ k x, Z.2.1 k = some x → k < Z.1) ∧ (∀ k i j, Z.2.2 k i = some j → j < Z.1) ∧ Z.1 ≤ 1000 ∧ (∀ k ci, Z.2.1 k = some (.inl ci) → ci < 13)
def okv (N : Nat) (v : Value) : Prop := match v with
  | .ref k => k < N ∨ 1000 ≤ k
  | _ => True
def okS (N : Nat) : List Value → Prop
  | [] => True
  | v :: t => okv N v ∧ okS N t
def lk : Lv → Nat → Option Value
  | [], _ => none
  | q :: t, j => cond (Nat.beq q.1 j) (some q.2) (lk t j)
def okL (N : Nat) (lv : Lv) : Prop := ∀ j v, lk lv j = some v → okv N v
def LV (ad : Nat → Nat) (ls : Array Slot) (nL : Nat) (lv : Lv) : Prop := ls.size = nL ∧ lv_wf ls ∧ ∀ j v, lk lv j = some v → ls[j]? = some (.val (cv ad v))
def TYS : List FieldType := [.int, .long, .byte, .boolean, .object "FireApologies$Rocket", .array .int, .array .long]
abbrev tyl (tc : FieldType → ClassId) : List (ClassId × FieldType) := [(tc .int, .int), (tc .long, .long), (tc .byte, .byte), (tc .boolean, .boolean), (tc (.object "FireApologies$Rocket"), .object "FireApologies$Rocket"), (tc (.array .int), .array .int), (tc (.array .long), .array .long)]
def AO2 (t : FieldType) (U : State) : Prop := (Cond.arrayOver t).before #[] U = true
def NWm : List (String × Nat × MethodName × String) := [("FireApologies", 13, yX10_init, "FireApologies"), ("FireApologies$World", 11, yX5_init, "FireApologies"), ("FireApologies$World", 14, yX2_init, "FireApologies"), ("FireApologies$Fountain", 3, yX5_init, "FireApologies"), ("FireApologies$World", 17, yX9_init, "FireApologies"), ("FireApologies$Whistle", 1, yX5_init, "FireApologies"), ("FireApologies$World", 20, yX3_init, "FireApologies"), ("FireApologies$Frame", 3, yX5_init, "FireApologies"), ("FireApologies$World", 23, yX1_init, "FireApologies"), ("FireApologies$Cake", 3, yX2_init, "FireApologies"), ("FireApologies$World", 26, yX8_init, "FireApologies"), ("FireApologies$Wheel", 1, yX9_init, "FireApologies"), ("FireApologies$World", 29, yX7_init, "FireApologies"), ("FireApologies$Told", 3, yX3_init, "FireApologies"), ("FireApologies", 26, yX4_init, "FireApologies"), ("FireApologies", 33, yX0_init, "FireApologies"), ("FireApologies$World", 101, yX11_within, "FireApologies")]
def NWc : List (String × String) := [("FireApologies$Fountain", "FireApologies$Rocket"), ("FireApologies$Whistle", "FireApologies$Rocket"), ("FireApologies$Frame", "FireApologies$Rocket"), ("FireApologies$Cake", "FireApologies$Rocket"), ("FireApologies$Wheel", "FireApologies$Rocket"), ("FireApologies$Told", "FireApologies$Rocket")]
def STR : List (String × Nat × String × Nat) := [("FireApologies$Reader", 55, "bright ", 0), ("FireApologies$Reader", 61, "ry ", 1), ("FireApologies$Reader", 69, "im ", 2), ("FireApologies$Reader", 84, "pkvswm", 3), ("FireApologiesModel", 208, "bright ", 0), ("FireApologiesModel", 214, "dim ", 4), ("FireApologiesModel", 216, "dry ", 5), ("FireApologiesModel", 177, "pkvswm", 3), ("FireApologiesModel", 182, "<=>", 6)]
def sLen : List Nat := [7, 3, 3, 6, 4, 4, 3]
def sByt : List (List Int32) := [[98, 114, 105, 103, 104, 116, 32], [114, 121, 32], [105, 109, 32], [112, 107, 118, 115, 119, 109], [100, 105, 109, 32], [100, 114, 121, 32], [60, 61, 62]]
def tAbove : List Int32 := [-1, 0, 0, 0, 1, 2, 3]
/-- what stands outside the places: string constants, static fields -/
def SF (ad : Nat → Nat) (A : Nat → Prop) (s : State) : Prop :=
  vk_S 7 sLen sByt (fun i => ad (1000 + i)) (fun i => ad (1100 + i)) A s s.heap ∧ (∀ q ∈ STR, vk_R q.1 q.2.1 q.2.2.1 (ad (1000 + q.2.2.2)) s) ∧
  va_Z "FireApologies" "ABOVE" "[I" (.ref (ad 2000)) A s s.heap ∧ va_T .int (ad 2000) 7 (fun j => .int (tAbove.getD j 0)) A s s.heap ∧
  va_Z "java/lang/String" "COMPACT_STRINGS" "Z" (.int 1) A s s.heap ∧ (∀ q ∈ NWm, va_Nw (.methodLinkNest q.1 q.2.1 q.2.2.1 q.2.2.2) s) ∧ (∀ q ∈ NWc, va_Nw (.castable q.1 q.2) s) ∧ va_AO "FireApologies$Rocket" s ∧ AO2 (.array .int) s ∧ AO2 (.array .long) s ∧ (va_Z "jdk/internal/util/Preconditions" "SIOOBE_FORMATTER" "Ljava/util/function/BiFunction;" .null A s s.heap ∨ va_Z "jdk/internal/util/Preconditions" "SIOOBE_FORMATTER" "Ljava/util/function/BiFunction;" (.ref (ad 2500)) A s s.heap)
/-- the law's script -/
def SX (X : Option (Nat × (Nat → Int32))) (ad : Nat → Nat) (A : Nat → Prop) (s : State) : Prop := match X with
  | none => True
  | some q => va_X (ad 3000) q.1 q.2 s s.heap ∧ ad 3000 < s.heap.size ∧ ¬ A (ad 3000)
def Cx (M : Mt) (d mc ms : Nat) (p : Program) (R : Room) (s : State) (m : MethodId) (args : Array Value) (meth : Method) (c : Code) : Prop :=
  p.tables.exec = Jvm.exec ∧ c.code = M.2.1 ∧ c.maxLocals = M.2.2.1 ∧ meth.sig.returnType = M.2.2.2 ∧ s.vm.findClass M.1.cls = some m.cls ∧ (∀ w ∈ TB, w.before args s = true) ∧ meth.locks = false ∧ meth.name = M.1.name ∧ d ≤ R.frames ∧ 64 * d ≤ R.locals ∧ mc ≤ R.cells ∧ ms ≤ R.slots
def Wd (X : Option (Nat × (Nat → Int32))) (dC : Nat → ClassId) (dI : Nat → Nat → Nat) (tc : FieldType → ClassId) (ad : Nat → Nat) (A : Nat → Prop) (Z : Zt) (G : Gt) (L : Lt) (s : State) (H : Heap) (locs : List Loc) : Prop :=
  va_K (dC, dI) CL (tyl tc) s ∧ va_P (dC, dI) CL (cw tc ad Z G L) H ∧ va_D A (cw tc ad Z G L) ∧ va_S A s.heap H locs ∧ (∀ q, s.heap.size ≤ q → A q) ∧ SF ad A s ∧ SX X ad A s ∧ WF Z
def Ag (N : Nat) (ad0 ad : Nat → Nat) : Prop := ∀ k, k < N ∨ 1000 ≤ k → ad k = ad0 k
def RI (M : Mt) (pc : Nat) (r : Option Value) : Prop := match r with
  | none => decode M.2.1 pc = .ok (.return_, 1) ∧ M.2.2.2 = none
  | some (.int v) => decode M.2.1 pc = .ok (.ireturn, 1) ∧ ∃ ty, M.2.2.2 = some ty ∧ narrow ty (.int v) = .int v
  | some (.long _) => decode M.2.1 pc = .ok (.lreturn, 1) ∧ M.2.2.2 = some .long
  | some (.ref _) => decode M.2.1 pc = .ok (.areturn, 1) ∧ ∃ rt, M.2.2.2 = some rt ∧ ((∃ n, rt = .object n) ∨ ∃ t, rt = .array t)
  | _ => False
def Rt (X : Option (Nat × (Nat → Int32))) (M : Mt) (mc ms : Nat) (Q : Qt) (p : Program) (l : Launch) (e : Env) (R : Room) (s : State) (m : MethodId) (args : Array Value) (below : List Frame) (meth : Method) (c : Code) (dC : Nat → ClassId) (dI : Nat → Nat → Nat) (tc : FieldType → ClassId) (A : Nat → Prop) (N0 : Nat) (ad0 : Nat → Nat) (Qr : State → Prop) : Prop :=
  (X ≠ none → N0 = 0) ∧
  ∀ (r : Option Value) (Z : Zt) (G : Gt) (L : Lt) (ad : Nat → Nat) (H : Heap) (locs : List Loc) (pc : Nat) (ls : Array Slot), Q r Z G L → Wd X dC dI tc ad A Z G L s H locs → (∀ v, r = some v → okv Z.1 v) → Ag N0 ad0 ad → N0 ≤ Z.1 → RI M pc r → W p l e R s m args below meth c H locs mc ms Qr (F0 m pc ls (cs ad r.toList))
/-- THE ABSTRACT JUDGEMENT: from this pc, these locals, this stack, these contents, method M comes to its end with Q -/
def AX (X : Option (Nat × (Nat → Int32))) (M : Mt) (d mc ms cu su pc : Nat) (lv : Lv) (st : List Value) (Z : Zt) (G : Gt) (L : Lt) (Q : Qt) : Prop :=
  ∀ (p : Program) (l : Launch) (e : Env) (R : Room) (s : State) (m : MethodId) (args : Array Value) (below : List Frame) (meth : Method) (c : Code) (H : Heap) (locs : List Loc) (ls : Array Slot) (dC : Nat → ClassId) (dI : Nat → Nat → Nat) (tc : FieldType → ClassId) (ad : Nat → Nat) (A : Nat → Prop) (N0 : Nat) (ad0 : Nat → Nat) (Qr : State → Prop),
    Cx M d mc ms p R s m args meth c → Wd X dC dI tc ad A Z G L s H locs → okL Z.1 lv → okS Z.1 st → LV ad ls M.2.2.1 lv → Ag N0 ad0 ad → N0 ≤ Z.1 → Rt X M mc ms Q p l e R s m args below meth c dC dI tc A N0 ad0 Qr →
    W p l e R s m args below meth c H locs cu su Qr (F0 m pc ls (cs ad st))
/-- a method's start and end, for a caller -/
def Pcx (dC : Nat → ClassId) (dI : Nat → Nat → Nat) (tc : FieldType → ClassId) (ad : Nat → Nat) (sz : Nat) (av : List Value) (Z : Zt) (G : Gt) (L : Lt) : Array Value → State → Prop :=
  va_Pc (cs ad av) (fun U => U.heap.size = sz ∧ va_K (dC, dI) CL (tyl tc) U ∧ va_P (dC, dI) CL (cw tc ad Z G L) U.heap ∧ va_D (fun _ => True) (cw tc ad Z G L) ∧ SF ad (va_A (cw tc ad Z G L) sz) U ∧ WF Z ∧ okS Z.1 av)
def Qcx (dC : Nat → ClassId) (dI : Nat → Nat → Nat) (tc : FieldType → ClassId) (ad : Nat → Nat) (sz : Nat) (Z : Zt) (G : Gt) (L : Lt) (Q : Qt) : Array Value → State → Outcome → State → Prop := fun _ st oc t =>
  (∃ (r : Option Value) (Z' : Zt) (G' : Gt) (L' : Lt) (ad' : Nat → Nat), oc = .returned (r.map (cv ad')) ∧ Q r Z' G' L' ∧ Ag Z.1 ad ad' ∧ Z.1 ≤ Z'.1 ∧ (∀ v, r = some v → okv Z'.1 v) ∧ WF Z' ∧ va_P (dC, dI) CL (cw tc ad' Z' G' L') t.heap ∧ va_D (va_A (cw tc ad Z G L) sz) (cw tc ad' Z' G' L')) ∧ va_F (va_A (cw tc ad Z G L) sz) st t
abbrev rmx (d mc ms : Nat) : Room := { frames := d, cells := mc, slots := ms, locals := 64 * d }
abbrev CW (M : Mt) : Cond := .code M.1 M.2.1 M.2.2.1 M.2.2.2
abbrev wsx (M : Mt) : List Cond := CW M :: TB
def AC (M : Mt) (d mc ms : Nat) (av : List Value) (Z : Zt) (G : Gt) (L : Lt) (Q : Qt) : Prop :=
  ∀ (l : Launch) (dC : Nat → ClassId) (dI : Nat → Nat → Nat) (tc : FieldType → ClassId) (ad : Nat → Nat) (sz : Nat), Met l M.1 (wsx M) (rmx d mc ms) (Pcx dC dI tc ad sz av Z G L) (Qcx dC dI tc ad sz Z G L Q) mc ms (va_A (cw tc ad Z G L) sz)
