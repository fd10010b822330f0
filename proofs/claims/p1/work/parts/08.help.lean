/-- a class of which an object may stand where the other is asked for -/
def fz_Ca (E C : String) (U : State) : Prop := ∃ c t : ClassId, U.vm.findClass E = some c ∧ U.vm.findClass C = some t ∧ U.vm.assignable c t = true
theorem fz_Ca.moved {C T : String} {u U : State} (hvm : u.vm.Alike U.vm) (h : fz_Ca C T u) : fz_Ca C T U := by
  obtain ⟨c, t, h1, h2, h3⟩ := h
  exact ⟨c, t, by rw [hvm.findClass]; exact h1, by rw [hvm.findClass]; exact h2, by rw [hvm.assignable]; exact h3⟩
theorem fz_Ca.of {args : Array Value} {s : State} {C T : String} (h : (Cond.castable C T).before args s = true) : fz_Ca C T s := by
  simp only [Cond.before, Cond.holds, Cond.value] at h
  cases h1 : s.vm.findClass C with
  | none => simp [h1] at h
  | some c =>
    cases h2 : s.vm.findClass T with
    | none => simp [h1, h2] at h
    | some t =>
      simp [h1, h2] at h
      exact ⟨c, t, h1, h2, h⟩
theorem fz_Ca.use {args : Array Value} {s : State} {C T : String} (h : fz_Ca C T s) : (Cond.castable C T).before args s = true := by
  obtain ⟨c, t, h1, h2, h3⟩ := h
  simp [Cond.before, Cond.holds, Cond.value, h1, h2, h3]
/-- a method that its class declares -/
def fz_De (x : MethodName) (U : State) : Prop := (Cond.declares x).before #[] U = true
theorem fz_De.moved {x : MethodName} {u U : State} (hvm : u.vm.Alike U.vm) (h : fz_De x u) : fz_De x U := by
  have tr : ∀ {c : Cond}, c.onTables = true → c.before #[] (u.setVm U.vm) = true → c.before #[] U = true := by
    intro c hc h
    have e := Cond.onTables_vm (A := #[]) (A' := #[]) (U := u) (U' := U) U.vm c hc
    have hU : U.setVm U.vm = U := rfl
    rw [hU] at e
    rw [← e]
    exact h
  exact tr rfl (by rw [Cond.declares_setVm hvm]; exact h)
theorem fz_De.use {x : MethodName} {A : Array Value} {U : State} (h : fz_De x U) : (Cond.declares x).before A U = true := va_tabs rfl rfl h
def fz_iS (X : String) : MethodName := ⟨X, "<init>", "(Ljava/lang/String;)V"⟩
def fz_B (e : String) : List Cond := [Cond.castable e e, Cond.declares (fz_iS "java/lang/RuntimeException"), Cond.declares (fz_iS "java/lang/Exception"), Cond.declares (fz_iS "java/lang/Throwable")]
def fz_ex : List String := ["java/lang/ArithmeticException", "java/lang/IllegalArgumentException", "java/lang/IllegalStateException", "java/lang/IndexOutOfBoundsException", "java/lang/UnsupportedOperationException", "java/util/NoSuchElementException"]
def fz_nc : List (String × String) := [("java/lang/UnsupportedOperationException", "java/lang/IllegalArgumentException"), ("java/lang/IllegalStateException", "java/lang/IllegalArgumentException"), ("java/lang/IndexOutOfBoundsException", "java/lang/IllegalArgumentException"), ("java/util/NoSuchElementException", "java/lang/IllegalArgumentException"), ("java/lang/ArithmeticException", "java/lang/IllegalArgumentException"), ("java/lang/IllegalArgumentException", "java/lang/UnsupportedOperationException"), ("java/lang/IllegalStateException", "java/lang/UnsupportedOperationException"), ("java/lang/IndexOutOfBoundsException", "java/lang/UnsupportedOperationException"), ("java/util/NoSuchElementException", "java/lang/UnsupportedOperationException"), ("java/lang/ArithmeticException", "java/lang/UnsupportedOperationException"), ("java/lang/IllegalArgumentException", "java/lang/IllegalStateException"), ("java/lang/UnsupportedOperationException", "java/lang/IllegalStateException"), ("java/lang/IndexOutOfBoundsException", "java/lang/IllegalStateException"), ("java/util/NoSuchElementException", "java/lang/IllegalStateException"), ("java/lang/ArithmeticException", "java/lang/IllegalStateException"), ("java/lang/IllegalArgumentException", "java/lang/IndexOutOfBoundsException"), ("java/lang/UnsupportedOperationException", "java/lang/IndexOutOfBoundsException"), ("java/lang/IllegalStateException", "java/lang/IndexOutOfBoundsException"), ("java/util/NoSuchElementException", "java/lang/IndexOutOfBoundsException"), ("java/lang/ArithmeticException", "java/lang/IndexOutOfBoundsException"), ("java/lang/IllegalArgumentException", "java/util/NoSuchElementException"), ("java/lang/UnsupportedOperationException", "java/util/NoSuchElementException"), ("java/lang/IllegalStateException", "java/util/NoSuchElementException"), ("java/lang/IndexOutOfBoundsException", "java/util/NoSuchElementException"), ("java/lang/ArithmeticException", "java/util/NoSuchElementException"), ("java/lang/IllegalArgumentException", "java/lang/ArithmeticException"), ("java/lang/UnsupportedOperationException", "java/lang/ArithmeticException"), ("java/lang/IllegalStateException", "java/lang/ArithmeticException"), ("java/lang/IndexOutOfBoundsException", "java/lang/ArithmeticException"), ("java/util/NoSuchElementException", "java/lang/ArithmeticException")]
theorem fz_nc_1 : ("java/util/NoSuchElementException", "java/lang/IllegalArgumentException") ∈ fz_nc := by decide +kernel
def fz_strs : List (Nat × String) := [(87, "a number is out of range"), (100, "the joint has no length or a place would not turn to the left"), (108, "a stone is set"), (113, "there are 8 joints"), (125, "there is no such joint"), (131, "a place beside the joint is filled"), (140, "the density is out of range"), (151, "there is no such place"), (163, "the grip is out of range"), (167, "there are less than 2 places"), (174, "the arch would not be safe"), (184, "the arch would not be safe with the load 0"), (208, "there are 6 kinds"), (217, "there is no such kind"), (233, "the place can be cut from no block that there is"), (235, "there are 4 masons"), (244, "there is no such place, kind or mason"), (246, "there is no such block left, or the place cannot be cut from it"), (248, "there are 40 stones"), (273, "there is no such stone"), (291, "there is no sign there"), (296, "there is no such stone or place"), (306, "the strength is out of range"), (308, "there is a centre, or the arch stands"), (313, "the stone does not fit"), (321, "the stone, the place or the centre is not fit for it"), (330, "the place is empty"), (332, "there is no centre, or not all places are filled, or too few"), (337, "the arch is not safe"), (339, "the load is out of range"), (341, "the arch does not stand"), (346, "the number of days is out of range"), (359, "no block was cut"), (362, "there are no places")]
def fz_List (n d : String) : MethodName := ⟨"java/util/List", n, d⟩
/-- what the tables say that the words don't carry -/
def fz_T (U : State) : Prop :=
  (va_Nw (.methodLinkNest RX7 18 yX6_init "VoussoirYard") U ∧ va_Nw (.methodLinkNest RX1 17 yX2_init "VoussoirYard") U ∧ va_Nw (.methodLinkNest RX1 24 yX4_init "VoussoirYard") U) ∧
  (∀ E : String, E ∈ fz_ex → fz_Ca E E U) ∧
  (∀ q : String × String, q ∈ fz_nc → va_Nc q.1 q.2 U) ∧
  (va_Fw RJx4a65c ⟨"java/util/List", "isEmpty", "()Z"⟩ yJx4a65c_isEmpty_aae02 U ∧ va_Fw RJx4a65c ⟨"java/util/List", "size", "()I"⟩ yJx4a65c_size_8abf5 U ∧ va_Fw RJx4a65c ⟨"java/util/List", "add", "(Ljava/lang/Object;)Z"⟩ yJx4a65c_add_9ea2d U) ∧
  (va_AO "VoussoirYard$Joint" U ∧ va_AO "VoussoirYard$BlockKind" U ∧ va_AO "VoussoirYard$Mason" U ∧ va_AO "VoussoirYard$Stone" U ∧ va_AO "java/lang/Object" U) ∧
  (∀ q : Nat × String, q ∈ fz_strs → ∃ sa : Nat, vk_R "VoussoirYard" q.1 q.2 sa U) ∧
  (fz_Ca "[I" "java/lang/Object" U ∧ fz_Ca RX8 "java/lang/Object" U ∧ fz_Ca RX9 "java/lang/Object" U) ∧
  (fz_De (fz_iS "java/lang/RuntimeException") U ∧ fz_De (fz_iS "java/lang/Exception") U ∧ fz_De (fz_iS "java/lang/Throwable") U)
theorem fz_T.warm {s U : State} (hW : s.WarmedH U.vm) (h : fz_T s) : fz_T U := by
  obtain ⟨⟨n1, n2, n3⟩, h2, h3, ⟨f1, f2, f3⟩, ⟨a1, a2, a3, a4, a5⟩, h6, ⟨o1, o2, o3⟩, d1, d2, d3⟩ := h
  have hv := hW.alike
  exact ⟨⟨va_Nw.warmM hW n1, va_Nw.warmM hW n2, va_Nw.warmM hW n3⟩, fun E hE => (h2 E hE).moved hv, fun q hq => va_Nc.moved hv (h3 q hq),
    ⟨va_Fw.moved (by decide +kernel) hv f1, va_Fw.moved (by decide +kernel) hv f2, va_Fw.moved (by decide +kernel) hv f3⟩,
    ⟨va_AO.moved hv a1, va_AO.moved hv a2, va_AO.moved hv a3, va_AO.moved hv a4, va_AO.moved hv a5⟩, fun q hq => by
      obtain ⟨sa, h⟩ := h6 q hq
      exact ⟨sa, vk_R.warm hW h⟩, ⟨o1.moved hv, o2.moved hv, o3.moved hv⟩, d1.moved hv, d2.moved hv, d3.moved hv⟩
/-- .. and the cells of the start that every call may read: the statics of Throwable, ArrayList's empty row e0 -/
def fz_amb (e0 : Nat) (A : Nat → Prop) (U : State) (H : Heap) : Prop := fz_T U ∧ vx_Zq Bundle.tN "UNASSIGNED_STACK" Bundle.steD A U H ∧ vx_Zq Bundle.tN "SUPPRESSED_SENTINEL" Bundle.listD A U H ∧
  va_Z "java/util/ArrayList" "DEFAULTCAPACITY_EMPTY_ELEMENTDATA" "[Ljava/lang/Object;" (.ref e0) A U H ∧ va_T (.object "java/lang/Object") e0 0 (fun _ => .null) A U H
theorem fz_amb.at {e0 : Nat} {A B : Nat → Prop} {s U : State} {H : Heap} {locs : List Loc} (h : fz_amb e0 A s s.heap) (hS : va_S A s.heap H locs) (hAB : ∀ q, B q → A q) (hU : U.heap = H) (hW : s.WarmedH U.vm) : fz_amb e0 B U U.heap := by
  obtain ⟨h1, h2, h3, h4, h5⟩ := h
  rw [hU]
  have hv := hW.alike
  exact ⟨h1.warm hW, vx_Zq.moved hv ((h2.kept hS.2.1).narrow hAB), vx_Zq.moved hv ((h3.kept hS.2.1).narrow hAB), va_Z.moved hv ((h4.kept hS.2.1).narrow hAB), va_T.moved hv ((h5.kept hS.2.1).narrow hAB)⟩
theorem fz_amb.calling {e0 : Nat} {A : Nat → Prop} {U : State} {g : JFrame} {mk : MethodId} {a : Array Value} (h : fz_amb e0 A U U.heap) : fz_amb e0 A (U.calling g mk a) (U.calling g mk a).heap := by
  have hS : va_S A U.heap (U.calling g mk a).heap [] := va_S.rf
  exact fz_amb.at (locs := []) h hS (fun _ q => q) rfl (State.WarmedH.refl U)
/-- what a method is called with: its arguments, the cells that it may read or write, what comes along -/
def fz_P (g : va_G) (e0 : Nat) (W : va_W) (TY : List (ClassId × FieldType)) (sz : Nat) (A : Nat → Prop) (av : List Value) : Array Value → State → Prop :=
  va_Pc av (fun U => U.heap.size = sz ∧ va_P g vwCl W U.heap ∧ va_K g vwCl TY U ∧ va_D (fun _ => True) W ∧ fz_amb e0 A U U.heap)
theorem fz_blind {g : va_G} {e0 : Nat} {W : va_W} {TY : List (ClassId × FieldType)} {sz : Nat} {A : Nat → Prop} {av : List Value} : FrameBlind (fz_P g e0 W TY sz A av) := by
  intro a U f mk q
  obtain ⟨q0, q1, qP, qK, qD, qA⟩ := q
  exact ⟨q0, q1, qP, va_K.moved (u := U) (U := U.calling f mk a) (Vm.Alike.refl U.vm) qK, qD, qA.calling⟩
theorem fz_pre {g : va_G} {e0 : Nat} {W : va_W} {TY : List (ClassId × FieldType)} {A A1 A0 : Nat → Prop} {av : List Value} {s : State} {H : Heap} {locs : List Loc} (hP : va_P g vwCl W H) (hK : va_K g vwCl TY s) (hD : va_D A0 W) (hAm : fz_amb e0 A s s.heap) (hS : va_S A s.heap H locs) (hAB : ∀ q, A1 q → A q) :
    ∀ U : State, U.heap = H → s.WarmedH U.vm → fz_P g e0 W TY H.size A1 av av.toArray U := fun U hU hW =>
  ⟨rfl, by rw [hU], by rw [hU]; exact hP, va_K.moved hW.alike hK, hD.weaken (fun _ _ _ _ => trivial), hAm.at hS hAB hU hW⟩
/-- a world behind a call that wrote nothing old -/
theorem fz_keep {g : va_G} {W : va_W} {H H1 : Heap} (h : va_P g vwCl W H) (hk : ∀ q : Nat, q < H.size → ¬ H.size ≤ q → H1[q]? = H[q]?) : va_P g vwCl W H1 :=
  h.kept fun k q hq => hk q.1 (h k q hq).lt (Nat.not_le.mpr (h k q hq).lt)
/-- .. that wrote cells apart from these -/
theorem fz_keepC {g : va_G} {W WC WR : va_W} {A0 : Nat → Prop} {H H1 : Heap} (hP : va_P g vwCl W H) (hD : va_D A0 W) (isC isR : List Nat) (hC : isC.map (fun i => W[i]?) = WC.map some) (hR : isR.map (fun i => W[i]?) = WR.map some) (hn : va_nd isR = true) (hdis : ∀ i ∈ isR, i ∉ isC)
    (hk : ∀ q : Nat, q < H.size → ¬ va_A WC H.size q → H1[q]? = H[q]?) (hF : ∀ q, va_A WC H.size q → A0 q) : va_P g vwCl WR H1 ∧ va_D A0 WR := by
  have h := va_join (w1 := []) hP hD isC isR hC hR hn hdis hk hF (fun k q h => by simp at h) ⟨fun i j p q h => by simp at h, fun k q h => by simp at h⟩
  rw [List.append_nil] at h
  exact h
theorem fz_il {i : Int32} {n : Nat} (h : ¬ (i < 0 ∨ n ≤ i.toNatClampNeg)) : vp_in i n := h
theorem fz_a1 {a b : Int32} (h : ¬ a < b) : b ≤ a := Int32.not_lt.mp h
theorem fz_a2 {a b : Int32} (h : a < b) : ¬ b ≤ a := Int32.not_le.mpr h
theorem fz_a3 {a b : Int32} (h : ¬ a ≤ b) : b < a := Int32.not_le.mp h
theorem fz_a4 {a b : Int32} (h : a ≤ b) : ¬ b < a := Int32.not_lt.mpr h
def fz_in (x lo hi : Int32) : Prop := ¬ x < lo ∧ ¬ hi < x
def fz_v (a b c d : Int32) : Prop := fz_in a 0 20 ∧ fz_in b 0 20 ∧ fz_in c 0 20 ∧ fz_in d 0 20 ∧ ¬ (a = c ∧ b = d)
theorem fz_in_no (x : Int32) : ¬ fz_in x 0 (-1) := fun h => h.2 (by
  have h1 := Int32.not_lt.mp h.1
  rw [Int32.le_iff_toInt_le] at h1
  rw [Int32.lt_iff_toInt_lt]
  have e0 : (0 : Int32).toInt = 0 := by decide
  have e1 : (-1 : Int32).toInt = -1 := by decide
  omega)
theorem fz_wlt (a b : Int32) : a.toInt64 < b.toInt64 ↔ a < b := by
  rw [Int64.lt_iff_toInt_lt, Int32.lt_iff_toInt_lt, Int32.toInt_toInt64, Int32.toInt_toInt64]
theorem fz_cmp_lt (a b : Int32) : lg_cmp a.toInt64 b.toInt64 < 0 ↔ a < b := (lg_cmp_lt _ _).trans (fz_wlt a b)
theorem fz_cmp_gt (a b : Int32) : 0 < lg_cmp a.toInt64 b.toInt64 ↔ b < a := (lg_cmp_gt _ _).trans (fz_wlt b a)
theorem fz_cmp_self (a : Int64) : lg_cmp a a = 0 := by simp [lg_cmp]
theorem fz_xF {A : Nat → Prop} {s t : State} {H : Heap} {locs : List Loc} (hS : va_S A s.heap H locs) (h1 : H.size ≤ t.heap.size) (h2 : ∀ q : Nat, q < H.size → t.heap[q]? = H[q]?) : va_F A s t :=
  ⟨Nat.le_trans hS.1 h1, fun q hq hn => (h2 q (Nat.lt_of_lt_of_le hq hS.1)).trans (hS.2.1 q hq hn)⟩
/-- a row of ints is an object too -/
theorem fz_anyI {g : va_G} {cl : List vw_C} {tys : List (ClassId × FieldType)} {ws : va_W} {s : State} {H : Heap} {a : Nat} (hK : va_K g cl tys s) (hP : va_P g cl ws H) (q0 t0 : Nat) {cA : ClassId} {n : Nat} {f : Nat → Int32} (ha : ws[q0]? = some (a, .inl (cA, n, .inl f))) (ht : tys[t0]? = some (cA, .int)) (hc : fz_Ca "[I" "java/lang/Object" s) : va_Any "java/lang/Object" s H a := by
  obtain ⟨c, t, h1, h2, h3⟩ := hc
  have h4 : H[a]? = some (vp_cell cA (n, .inl f)) := hP q0 _ ha
  have h5 : s.vm.findClass "[I" = some cA := (hK.2 t0 _ ht).2
  cases h5.symm.trans h1
  obtain ⟨k9, h9, -⟩ := Vm.findClass_spec h5
  refine ⟨_, h4, rfl, ⟨k9, h9⟩, fun comp hcomp => ?_⟩
  cases h2.symm.trans hcomp
  exact h3
theorem fz_wf {e : String} {s : State} {args : Array Value} {own : String} {ik ic : Nat} {names : List String} {Ts : List Cond} (hts : ∀ w ∈ Ts, w.before args s = true) (h1 : ∀ w ∈ (vx_atS own ic e names).filter goodWord, w ∈ Ts)
    (h2 : ∀ w ∈ (vx_atS own ic e names).filter (fun w => !goodWord w), w ∈ fz_B e) (hc : fz_Ca e e s) (hT : fz_T s) : ∀ w ∈ vx_atS own ic e names, w.before args s = true :=
  vx_hat (B := fz_B e) (fun w h => hts w (h1 w h)) h2 (vx_c hc.use (vx_c hT.2.2.2.2.2.2.2.1.use (vx_c hT.2.2.2.2.2.2.2.2.1.use (vx_c hT.2.2.2.2.2.2.2.2.2.use vx_n))))
theorem fz_x_Arithmetic : "java/lang/ArithmeticException" ∈ fz_ex := by decide +kernel
theorem fz_ng_Arithmetic : ∀ w ∈ (vx_atS RX7 361 "java/lang/ArithmeticException" ["java/lang/RuntimeException", "java/lang/Exception"]).filter (fun w => !goodWord w), w ∈ fz_B "java/lang/ArithmeticException" := by decide +kernel
theorem fz_ot_Arithmetic : ∀ w ∈ Cond.classLink RX7 357 "java/lang/ArithmeticException" :: Cond.initialized "java/lang/ArithmeticException" :: vx_atS RX7 361 "java/lang/ArithmeticException" ["java/lang/RuntimeException", "java/lang/Exception"], vx_ot w = true := by decide +kernel
def fz_w_Arithmetic : List Cond := Cond.classLink RX7 357 "java/lang/ArithmeticException" :: Cond.initialized "java/lang/ArithmeticException" :: (vx_atS RX7 361 "java/lang/ArithmeticException" ["java/lang/RuntimeException", "java/lang/Exception"]).filter goodWord
theorem fz_wi_Arithmetic : ∀ w ∈ fz_w_Arithmetic, w ∈ lw_tbl := by decide +kernel
theorem fz_wg_Arithmetic : fz_w_Arithmetic.all goodWord = true := by decide +kernel
theorem fz_nm_Arithmetic : ∀ n ∈ (["java/lang/RuntimeException", "java/lang/Exception"] : List String), Bundle.fit n = true := by decide +kernel
theorem fz_x_IllegalArgument : "java/lang/IllegalArgumentException" ∈ fz_ex := by decide +kernel
theorem fz_ng_IllegalArgument : ∀ w ∈ (vx_atS RX7 89 "java/lang/IllegalArgumentException" ["java/lang/RuntimeException", "java/lang/Exception"]).filter (fun w => !goodWord w), w ∈ fz_B "java/lang/IllegalArgumentException" := by decide +kernel
theorem fz_ot_IllegalArgument : ∀ w ∈ Cond.classLink RX7 85 "java/lang/IllegalArgumentException" :: Cond.initialized "java/lang/IllegalArgumentException" :: vx_atS RX7 89 "java/lang/IllegalArgumentException" ["java/lang/RuntimeException", "java/lang/Exception"], vx_ot w = true := by decide +kernel
def fz_w_IllegalArgument : List Cond := Cond.classLink RX7 85 "java/lang/IllegalArgumentException" :: Cond.initialized "java/lang/IllegalArgumentException" :: (vx_atS RX7 89 "java/lang/IllegalArgumentException" ["java/lang/RuntimeException", "java/lang/Exception"]).filter goodWord
theorem fz_wi_IllegalArgument : ∀ w ∈ fz_w_IllegalArgument, w ∈ lw_tbl := by decide +kernel
theorem fz_wg_IllegalArgument : fz_w_IllegalArgument.all goodWord = true := by decide +kernel
theorem fz_nm_IllegalArgument : ∀ n ∈ (["java/lang/RuntimeException", "java/lang/Exception"] : List String), Bundle.fit n = true := by decide +kernel
theorem fz_x_IllegalState : "java/lang/IllegalStateException" ∈ fz_ex := by decide +kernel
theorem fz_ng_IllegalState : ∀ w ∈ (vx_atS RX7 115 "java/lang/IllegalStateException" ["java/lang/RuntimeException", "java/lang/Exception"]).filter (fun w => !goodWord w), w ∈ fz_B "java/lang/IllegalStateException" := by decide +kernel
theorem fz_ot_IllegalState : ∀ w ∈ Cond.classLink RX7 111 "java/lang/IllegalStateException" :: Cond.initialized "java/lang/IllegalStateException" :: vx_atS RX7 115 "java/lang/IllegalStateException" ["java/lang/RuntimeException", "java/lang/Exception"], vx_ot w = true := by decide +kernel
def fz_w_IllegalState : List Cond := Cond.classLink RX7 111 "java/lang/IllegalStateException" :: Cond.initialized "java/lang/IllegalStateException" :: (vx_atS RX7 115 "java/lang/IllegalStateException" ["java/lang/RuntimeException", "java/lang/Exception"]).filter goodWord
theorem fz_wi_IllegalState : ∀ w ∈ fz_w_IllegalState, w ∈ lw_tbl := by decide +kernel
theorem fz_wg_IllegalState : fz_w_IllegalState.all goodWord = true := by decide +kernel
theorem fz_nm_IllegalState : ∀ n ∈ (["java/lang/RuntimeException", "java/lang/Exception"] : List String), Bundle.fit n = true := by decide +kernel
theorem fz_x_IndexOutOfBounds : "java/lang/IndexOutOfBoundsException" ∈ fz_ex := by decide +kernel
theorem fz_ng_IndexOutOfBounds : ∀ w ∈ (vx_atS RX7 127 "java/lang/IndexOutOfBoundsException" ["java/lang/RuntimeException", "java/lang/Exception"]).filter (fun w => !goodWord w), w ∈ fz_B "java/lang/IndexOutOfBoundsException" := by decide +kernel
theorem fz_ot_IndexOutOfBounds : ∀ w ∈ Cond.classLink RX7 123 "java/lang/IndexOutOfBoundsException" :: Cond.initialized "java/lang/IndexOutOfBoundsException" :: vx_atS RX7 127 "java/lang/IndexOutOfBoundsException" ["java/lang/RuntimeException", "java/lang/Exception"], vx_ot w = true := by decide +kernel
def fz_w_IndexOutOfBounds : List Cond := Cond.classLink RX7 123 "java/lang/IndexOutOfBoundsException" :: Cond.initialized "java/lang/IndexOutOfBoundsException" :: (vx_atS RX7 127 "java/lang/IndexOutOfBoundsException" ["java/lang/RuntimeException", "java/lang/Exception"]).filter goodWord
theorem fz_wi_IndexOutOfBounds : ∀ w ∈ fz_w_IndexOutOfBounds, w ∈ lw_tbl := by decide +kernel
theorem fz_wg_IndexOutOfBounds : fz_w_IndexOutOfBounds.all goodWord = true := by decide +kernel
theorem fz_nm_IndexOutOfBounds : ∀ n ∈ (["java/lang/RuntimeException", "java/lang/Exception"] : List String), Bundle.fit n = true := by decide +kernel
theorem fz_x_UnsupportedOperation : "java/lang/UnsupportedOperationException" ∈ fz_ex := by decide +kernel
theorem fz_ng_UnsupportedOperation : ∀ w ∈ (vx_atS RX7 110 "java/lang/UnsupportedOperationException" ["java/lang/RuntimeException", "java/lang/Exception"]).filter (fun w => !goodWord w), w ∈ fz_B "java/lang/UnsupportedOperationException" := by decide +kernel
theorem fz_ot_UnsupportedOperation : ∀ w ∈ Cond.classLink RX7 106 "java/lang/UnsupportedOperationException" :: Cond.initialized "java/lang/UnsupportedOperationException" :: vx_atS RX7 110 "java/lang/UnsupportedOperationException" ["java/lang/RuntimeException", "java/lang/Exception"], vx_ot w = true := by decide +kernel
def fz_w_UnsupportedOperation : List Cond := Cond.classLink RX7 106 "java/lang/UnsupportedOperationException" :: Cond.initialized "java/lang/UnsupportedOperationException" :: (vx_atS RX7 110 "java/lang/UnsupportedOperationException" ["java/lang/RuntimeException", "java/lang/Exception"]).filter goodWord
theorem fz_wi_UnsupportedOperation : ∀ w ∈ fz_w_UnsupportedOperation, w ∈ lw_tbl := by decide +kernel
theorem fz_wg_UnsupportedOperation : fz_w_UnsupportedOperation.all goodWord = true := by decide +kernel
theorem fz_nm_UnsupportedOperation : ∀ n ∈ (["java/lang/RuntimeException", "java/lang/Exception"] : List String), Bundle.fit n = true := by decide +kernel
theorem fz_x_NoSuchElement : "java/util/NoSuchElementException" ∈ fz_ex := by decide +kernel
-- exceptions: {'java/lang/ArithmeticException': (357, (361, '["java/lang/RuntimeException", "java/lang/Exception"]')), 'java/lang/IllegalArgumentException': (85, (89, '["java/lang/RuntimeException", "java/lang/Exception"]')), 'java/lang/IllegalStateException': (111, (115, '["java/lang/RuntimeException", "java/lang/Exception"]')), 'java/lang/IndexOutOfBoundsException': (123, (127, '["java/lang/RuntimeException", "java/lang/Exception"]')), 'java/lang/UnsupportedOperationException': (106, (110, '["java/lang/RuntimeException", "java/lang/Exception"]')), 'java/util/NoSuchElementException': (165, (169, '["java/lang/RuntimeException", "java/lang/Exception"]'))}
theorem fz_s_87 : (87, "a number is out of range") ∈ fz_strs := by decide +kernel
theorem fz_s_100 : (100, "the joint has no length or a place would not turn to the left") ∈ fz_strs := by decide +kernel
theorem fz_s_108 : (108, "a stone is set") ∈ fz_strs := by decide +kernel
theorem fz_s_113 : (113, "there are 8 joints") ∈ fz_strs := by decide +kernel
theorem fz_s_125 : (125, "there is no such joint") ∈ fz_strs := by decide +kernel
theorem fz_s_131 : (131, "a place beside the joint is filled") ∈ fz_strs := by decide +kernel
theorem fz_s_140 : (140, "the density is out of range") ∈ fz_strs := by decide +kernel
theorem fz_s_151 : (151, "there is no such place") ∈ fz_strs := by decide +kernel
theorem fz_s_163 : (163, "the grip is out of range") ∈ fz_strs := by decide +kernel
theorem fz_s_167 : (167, "there are less than 2 places") ∈ fz_strs := by decide +kernel
theorem fz_s_174 : (174, "the arch would not be safe") ∈ fz_strs := by decide +kernel
theorem fz_s_184 : (184, "the arch would not be safe with the load 0") ∈ fz_strs := by decide +kernel
theorem fz_s_208 : (208, "there are 6 kinds") ∈ fz_strs := by decide +kernel
theorem fz_s_217 : (217, "there is no such kind") ∈ fz_strs := by decide +kernel
theorem fz_s_233 : (233, "the place can be cut from no block that there is") ∈ fz_strs := by decide +kernel
theorem fz_s_235 : (235, "there are 4 masons") ∈ fz_strs := by decide +kernel
theorem fz_s_244 : (244, "there is no such place, kind or mason") ∈ fz_strs := by decide +kernel
theorem fz_s_246 : (246, "there is no such block left, or the place cannot be cut from it") ∈ fz_strs := by decide +kernel
theorem fz_s_248 : (248, "there are 40 stones") ∈ fz_strs := by decide +kernel
theorem fz_s_273 : (273, "there is no such stone") ∈ fz_strs := by decide +kernel
theorem fz_s_291 : (291, "there is no sign there") ∈ fz_strs := by decide +kernel
theorem fz_s_296 : (296, "there is no such stone or place") ∈ fz_strs := by decide +kernel
theorem fz_s_306 : (306, "the strength is out of range") ∈ fz_strs := by decide +kernel
theorem fz_s_308 : (308, "there is a centre, or the arch stands") ∈ fz_strs := by decide +kernel
theorem fz_s_313 : (313, "the stone does not fit") ∈ fz_strs := by decide +kernel
theorem fz_s_321 : (321, "the stone, the place or the centre is not fit for it") ∈ fz_strs := by decide +kernel
theorem fz_s_330 : (330, "the place is empty") ∈ fz_strs := by decide +kernel
theorem fz_s_332 : (332, "there is no centre, or not all places are filled, or too few") ∈ fz_strs := by decide +kernel
theorem fz_s_337 : (337, "the arch is not safe") ∈ fz_strs := by decide +kernel
theorem fz_s_339 : (339, "the load is out of range") ∈ fz_strs := by decide +kernel
theorem fz_s_341 : (341, "the arch does not stand") ∈ fz_strs := by decide +kernel
theorem fz_s_346 : (346, "the number of days is out of range") ∈ fz_strs := by decide +kernel
theorem fz_s_359 : (359, "no block was cut") ∈ fz_strs := by decide +kernel
theorem fz_s_362 : (362, "there are no places") ∈ fz_strs := by decide +kernel
