def v_c_X6_init : List Cond := .code yX6_init cX6_init 1 none :: ([.methodLink RX6 3 objectInit, .instanceMethod objectInit, .code objectInit ⟨#[0xb1]⟩ 1 none, .arrayClass .long, .fieldLink RX6 11 "VoussoirYard$ThrustSearch" "perH" "[J", .fieldLink RX6 15 "VoussoirYard$ThrustSearch" "perV" "[J", .fieldLink RX6 18 "VoussoirYard$ThrustSearch" "rest" "[J", .fieldLink RX6 21 "VoussoirYard$ThrustSearch" "conditions" "I", .fieldLink RX6 25 "VoussoirYard$ThrustSearch" "lostForce" "[J", .fieldLink RX6 28 "VoussoirYard$ThrustSearch" "lostMoment" "[J", .fieldLink RX6 31 "VoussoirYard$ThrustSearch" "leastTop" "J", .fieldLink RX6 35 "VoussoirYard$ThrustSearch" "leastDivisor" "J", .fieldLink RX6 38 "VoussoirYard$ThrustSearch" "mostTop" "J", .fieldLink RX6 41 "VoussoirYard$ThrustSearch" "mostDivisor" "J", .fieldLink RX6 44 "VoussoirYard$ThrustSearch" "isPossible" "Z"] ++ (wsX60))
set_option maxRecDepth 20000 in
theorem i_c_X6_init : ∀ w ∈ v_c_X6_init, w ∈ lw_tbl := List.forall_mem_cons.mpr ⟨List.mem_of_getElem? (i := 176) (by decide +kernel), List.forall_mem_append.mpr ⟨List.forall_mem_cons.mpr ⟨List.mem_of_getElem? (i := 177) (by decide +kernel), List.forall_mem_cons.mpr ⟨List.mem_of_getElem? (i := 94) (by decide +kernel), List.forall_mem_cons.mpr ⟨List.mem_of_getElem? (i := 95) (by decide +kernel), List.forall_mem_cons.mpr ⟨List.mem_of_getElem? (i := 212) (by decide +kernel), List.forall_mem_cons.mpr ⟨List.mem_of_getElem? (i := 178) (by decide +kernel), List.forall_mem_cons.mpr ⟨List.mem_of_getElem? (i := 179) (by decide +kernel), List.forall_mem_cons.mpr ⟨List.mem_of_getElem? (i := 180) (by decide +kernel), List.forall_mem_cons.mpr ⟨List.mem_of_getElem? (i := 181) (by decide +kernel), List.forall_mem_cons.mpr ⟨List.mem_of_getElem? (i := 182) (by decide +kernel), List.forall_mem_cons.mpr ⟨List.mem_of_getElem? (i := 183) (by decide +kernel), List.forall_mem_cons.mpr ⟨List.mem_of_getElem? (i := 184) (by decide +kernel), List.forall_mem_cons.mpr ⟨List.mem_of_getElem? (i := 185) (by decide +kernel), List.forall_mem_cons.mpr ⟨List.mem_of_getElem? (i := 186) (by decide +kernel), List.forall_mem_cons.mpr ⟨List.mem_of_getElem? (i := 187) (by decide +kernel), List.forall_mem_cons.mpr ⟨List.mem_of_getElem? (i := 188) (by decide +kernel), fun _ h => absurd h List.not_mem_nil⟩⟩⟩⟩⟩⟩⟩⟩⟩⟩⟩⟩⟩⟩⟩, inX6⟩⟩
set_option maxHeartbeats 4000000 in
set_option maxRecDepth 100000 in
theorem c_X6_init (l : Launch) (dC : Nat → ClassId) (dI : Nat → Nat → Nat) (e0 : Nat) (h0 : Nat) (sz : Nat) : Met l yX6_init v_c_X6_init ({ frames := 1, cells := 5, slots := 256, locals := 30 }) (fz_P (dC, dI) e0 [(h0, .inr (11, [.null, .null, .null, .int 0, .null, .null, .long 0, .long 0, .long 0, .long 0, .int 0]))] [] sz (va_A [(h0, .inr (11, [.null, .null, .null, .int 0, .null, .null, .long 0, .long 0, .long 0, .long 0, .int 0]))] sz) [.ref h0]) (va_Qv (fun (u : Unit) => True) (fun (u : Unit) (t : State) => True) (va_A [(h0, .inr (11, [.null, .null, .null, .int 0, .null, .null, .long 0, .long 0, .long 0, .long 0, .int 0]))] sz)) 5 256 (va_A [(h0, .inr (11, [.null, .null, .null, .int 0, .null, .null, .long 0, .long 0, .long 0, .long 0, .int 0]))] sz) := by
  refine Met.ofW (cc := cX6_init) (maxL := 1) (ret := none) (by decide) rfl ?_
  intro p e s m args below meth c s₁ B hml hv
  obtain ⟨rfl, hsz, hP, hK, hD0, hAm⟩ := hv
  have hx := B.exec
  have hb := B.bytes
  have hr := B.returns
  have hts := atoms_spec (ws := v_c_X6_init) B.pre
  have hown : s.vm.findClass RX6 = some m.cls := findClass_of_methodNamed B.named
  have hlocks := B.notSynchronized
  have hin : meth.name = "<init>" := (name_of_methodNamed B.named B.method).1
  subst hsz
  have hD := hD0.self (sz := s.heap.size)
  generalize hAe : va_A [(h0, .inr (11, [.null, .null, .null, .int 0, .null, .null, .long 0, .long 0, .long 0, .long 0, .int 0]))] s.heap.size = A at hD hAm ⊢
  have hA : ∀ q : Nat, s.heap.size ≤ q → A q := fun q h => by rw [← hAe]; exact Or.inr h
  have hS : va_S A s.heap s.heap [] := va_S.rf
  have hP : va_P (dC, dI) vwCl [(h0, .inr (11, [.null, .null, .null, .int 0, .null, .null, .long 0, .long 0, .long 0, .long 0, .int 0]))] s.heap := hP
  have hl := lv_entry ([.ref h0]) (n := 1) (Nat.le_of_ble_eq_true rfl)
  rw [lg_entry_eq]
  generalize (lg_sl ([.ref h0]) ++ List.replicate (1 - (lg_sl ([.ref h0])).length) Slot.unset).toArray = ls at hl ⊢
  have hl : lv_has ls 1 [(0, .ref h0)] := hl
  refine lv_aload_n hx hb dX6_init_0 rfl (lv_at hl 0 rfl) ?_
  refine W.objInit hx hb hown (hts _ (List.mem_cons_of_mem _ (List.mem_append_left _ (List.mem_of_getElem? (i := 0) rfl)))) (hts _ (List.mem_cons_of_mem _ (List.mem_append_left _ (List.mem_of_getElem? (i := 1) rfl)))) (hts _ (List.mem_cons_of_mem _ (List.mem_append_left _ (List.mem_of_getElem? (i := 2) rfl)))) rfl (by rw [hml]; exact hl.1) rfl dX6_init_1 (Nat.le_of_ble_eq_true rfl) (Nat.le_of_ble_eq_true rfl) ?_
  refine W.eq (g2 := F0 m 4 ls []) rfl ?_
  refine lv_aload_n hx hb dX6_init_4 rfl (lv_at hl 0 rfl) ?_
  refine lv_bipush (v := 80) hx hb dX6_init_5 (by decide) ?_
  refine va_newa (atype := .long) (ty := .long) (a0 := (80, .inr (.inl (fun _ => 0)))) (N' := 80) hx hb (hts _ (List.mem_cons_of_mem _ (List.mem_append_left _ (List.mem_of_getElem? (i := 3) rfl)))) rfl hK hP hD hS hA (fun _ => rfl) (by decide) (by decide) (by decide) (Nat.le_of_ble_eq_true rfl) (Nat.le_of_ble_eq_true rfl) dX6_init_7 (fun q_1 cA_1 H hK hP hD hS => ?_)
  have hK : va_K (dC, dI) vwCl [(cA_1, .long)] s := hK
  have hP : va_P (dC, dI) vwCl [(h0, .inr (11, [.null, .null, .null, .int 0, .null, .null, .long 0, .long 0, .long 0, .long 0, .int 0])), (q_1, .inl (cA_1, 80, .inr (.inl (fun _ => 0))))] H := hP
  have hD : va_D A [(h0, .inr (11, [.null, .null, .null, .int 0, .null, .null, .long 0, .long 0, .long 0, .long 0, .int 0])), (q_1, .inl (cA_1, 80, .inr (.inl (fun _ => 0))))] := hD
  refine W.widen (k := 1) (n := 80) (Nat.le_of_ble_eq_true rfl) (Nat.le_of_ble_eq_true rfl) ?_
  refine va_putF (D := (dC, dI)) (ci := 11) (v := .ref q_1) (ty := .array .long) (C := RX6) (T := TX6) (N := 11) hx hb hts (fun _ h9 => List.mem_cons_of_mem _ (List.mem_append_right _ (h9))) tyX6 tyX6_ok nmX6 hown hK hP hD hS 0 rfl rfl 0 (by decide) (hts _ (List.mem_cons_of_mem _ (List.mem_append_left _ (List.mem_of_getElem? (i := 4) rfl)))) (fun _ h9 => h9) rfl hin rfl (by decide +kernel) rfl rfl (Nat.le_of_ble_eq_true rfl) dX6_init_9 (fun H locs hP hD hS => ?_)
  have hP : va_P (dC, dI) vwCl [(h0, .inr (11, [.ref q_1, .null, .null, .int 0, .null, .null, .long 0, .long 0, .long 0, .long 0, .int 0])), (q_1, .inl (cA_1, 80, .inr (.inl (fun _ => 0))))] H := hP
  have hD : va_D A [(h0, .inr (11, [.ref q_1, .null, .null, .int 0, .null, .null, .long 0, .long 0, .long 0, .long 0, .int 0])), (q_1, .inl (cA_1, 80, .inr (.inl (fun _ => 0))))] := hD
  refine lv_aload_n hx hb dX6_init_12 rfl (lv_at hl 0 rfl) ?_
  refine lv_bipush (v := 80) hx hb dX6_init_13 (by decide) ?_
  refine va_newa (atype := .long) (ty := .long) (a0 := (80, .inr (.inl (fun _ => 0)))) (N' := 80) hx hb (hts _ (List.mem_cons_of_mem _ (List.mem_append_left _ (List.mem_of_getElem? (i := 3) rfl)))) rfl hK hP hD hS hA (fun _ => rfl) (by decide) (by decide) (by decide) (Nat.le_of_ble_eq_true rfl) (Nat.le_of_ble_eq_true rfl) dX6_init_15 (fun q_2 cA_2 H hK hP hD hS => ?_)
  have hK : va_K (dC, dI) vwCl [(cA_1, .long), (cA_2, .long)] s := hK
  have hP : va_P (dC, dI) vwCl [(h0, .inr (11, [.ref q_1, .null, .null, .int 0, .null, .null, .long 0, .long 0, .long 0, .long 0, .int 0])), (q_1, .inl (cA_1, 80, .inr (.inl (fun _ => 0)))), (q_2, .inl (cA_2, 80, .inr (.inl (fun _ => 0))))] H := hP
  have hD : va_D A [(h0, .inr (11, [.ref q_1, .null, .null, .int 0, .null, .null, .long 0, .long 0, .long 0, .long 0, .int 0])), (q_1, .inl (cA_1, 80, .inr (.inl (fun _ => 0)))), (q_2, .inl (cA_2, 80, .inr (.inl (fun _ => 0))))] := hD
  refine W.widen (k := 2) (n := 160) (Nat.le_of_ble_eq_true rfl) (Nat.le_of_ble_eq_true rfl) ?_
  refine va_putF (D := (dC, dI)) (ci := 11) (v := .ref q_2) (ty := .array .long) (C := RX6) (T := TX6) (N := 11) hx hb hts (fun _ h9 => List.mem_cons_of_mem _ (List.mem_append_right _ (h9))) tyX6 tyX6_ok nmX6 hown hK hP hD hS 0 rfl rfl 1 (by decide) (hts _ (List.mem_cons_of_mem _ (List.mem_append_left _ (List.mem_of_getElem? (i := 5) rfl)))) (fun _ h9 => h9) rfl hin rfl (by decide +kernel) rfl rfl (Nat.le_of_ble_eq_true rfl) dX6_init_17 (fun H locs hP hD hS => ?_)
  have hP : va_P (dC, dI) vwCl [(h0, .inr (11, [.ref q_1, .ref q_2, .null, .int 0, .null, .null, .long 0, .long 0, .long 0, .long 0, .int 0])), (q_1, .inl (cA_1, 80, .inr (.inl (fun _ => 0)))), (q_2, .inl (cA_2, 80, .inr (.inl (fun _ => 0))))] H := hP
  have hD : va_D A [(h0, .inr (11, [.ref q_1, .ref q_2, .null, .int 0, .null, .null, .long 0, .long 0, .long 0, .long 0, .int 0])), (q_1, .inl (cA_1, 80, .inr (.inl (fun _ => 0)))), (q_2, .inl (cA_2, 80, .inr (.inl (fun _ => 0))))] := hD
  refine lv_aload_n hx hb dX6_init_20 rfl (lv_at hl 0 rfl) ?_
  refine lv_bipush (v := 80) hx hb dX6_init_21 (by decide) ?_
  refine va_newa (atype := .long) (ty := .long) (a0 := (80, .inr (.inl (fun _ => 0)))) (N' := 80) hx hb (hts _ (List.mem_cons_of_mem _ (List.mem_append_left _ (List.mem_of_getElem? (i := 3) rfl)))) rfl hK hP hD hS hA (fun _ => rfl) (by decide) (by decide) (by decide) (Nat.le_of_ble_eq_true rfl) (Nat.le_of_ble_eq_true rfl) dX6_init_23 (fun q_3 cA_3 H hK hP hD hS => ?_)
  have hK : va_K (dC, dI) vwCl [(cA_1, .long), (cA_2, .long), (cA_3, .long)] s := hK
  have hP : va_P (dC, dI) vwCl [(h0, .inr (11, [.ref q_1, .ref q_2, .null, .int 0, .null, .null, .long 0, .long 0, .long 0, .long 0, .int 0])), (q_1, .inl (cA_1, 80, .inr (.inl (fun _ => 0)))), (q_2, .inl (cA_2, 80, .inr (.inl (fun _ => 0)))), (q_3, .inl (cA_3, 80, .inr (.inl (fun _ => 0))))] H := hP
  have hD : va_D A [(h0, .inr (11, [.ref q_1, .ref q_2, .null, .int 0, .null, .null, .long 0, .long 0, .long 0, .long 0, .int 0])), (q_1, .inl (cA_1, 80, .inr (.inl (fun _ => 0)))), (q_2, .inl (cA_2, 80, .inr (.inl (fun _ => 0)))), (q_3, .inl (cA_3, 80, .inr (.inl (fun _ => 0))))] := hD
  refine W.widen (k := 3) (n := 240) (Nat.le_of_ble_eq_true rfl) (Nat.le_of_ble_eq_true rfl) ?_
  refine va_putF (D := (dC, dI)) (ci := 11) (v := .ref q_3) (ty := .array .long) (C := RX6) (T := TX6) (N := 11) hx hb hts (fun _ h9 => List.mem_cons_of_mem _ (List.mem_append_right _ (h9))) tyX6 tyX6_ok nmX6 hown hK hP hD hS 0 rfl rfl 2 (by decide) (hts _ (List.mem_cons_of_mem _ (List.mem_append_left _ (List.mem_of_getElem? (i := 6) rfl)))) (fun _ h9 => h9) rfl hin rfl (by decide +kernel) rfl rfl (Nat.le_of_ble_eq_true rfl) dX6_init_25 (fun H locs hP hD hS => ?_)
  have hP : va_P (dC, dI) vwCl [(h0, .inr (11, [.ref q_1, .ref q_2, .ref q_3, .int 0, .null, .null, .long 0, .long 0, .long 0, .long 0, .int 0])), (q_1, .inl (cA_1, 80, .inr (.inl (fun _ => 0)))), (q_2, .inl (cA_2, 80, .inr (.inl (fun _ => 0)))), (q_3, .inl (cA_3, 80, .inr (.inl (fun _ => 0))))] H := hP
  have hD : va_D A [(h0, .inr (11, [.ref q_1, .ref q_2, .ref q_3, .int 0, .null, .null, .long 0, .long 0, .long 0, .long 0, .int 0])), (q_1, .inl (cA_1, 80, .inr (.inl (fun _ => 0)))), (q_2, .inl (cA_2, 80, .inr (.inl (fun _ => 0)))), (q_3, .inl (cA_3, 80, .inr (.inl (fun _ => 0))))] := hD
  refine lv_aload_n hx hb dX6_init_28 rfl (lv_at hl 0 rfl) ?_
  refine lv_iconst (v := 0) hx hb dX6_init_29 (by decide) ?_
  refine va_put (D := (dC, dI)) (ci := 11) (v := .int 0) (ty := .int) (C := RX6) (T := TX6) (N := 11) hx hb hts (fun _ h9 => List.mem_cons_of_mem _ (List.mem_append_right _ (h9))) tyX6 tyX6_ok nmX6 hown hK hP hD hS 0 rfl rfl 3 (by decide) (hts _ (List.mem_cons_of_mem _ (List.mem_append_left _ (List.mem_of_getElem? (i := 7) rfl)))) (fun _ h9 => h9) rfl (by decide +kernel) rfl rfl (Nat.le_of_ble_eq_true rfl) dX6_init_30 (fun H locs hP hD hS => ?_)
  have hP : va_P (dC, dI) vwCl [(h0, .inr (11, [.ref q_1, .ref q_2, .ref q_3, .int 0, .null, .null, .long 0, .long 0, .long 0, .long 0, .int 0])), (q_1, .inl (cA_1, 80, .inr (.inl (fun _ => 0)))), (q_2, .inl (cA_2, 80, .inr (.inl (fun _ => 0)))), (q_3, .inl (cA_3, 80, .inr (.inl (fun _ => 0))))] H := hP
  have hD : va_D A [(h0, .inr (11, [.ref q_1, .ref q_2, .ref q_3, .int 0, .null, .null, .long 0, .long 0, .long 0, .long 0, .int 0])), (q_1, .inl (cA_1, 80, .inr (.inl (fun _ => 0)))), (q_2, .inl (cA_2, 80, .inr (.inl (fun _ => 0)))), (q_3, .inl (cA_3, 80, .inr (.inl (fun _ => 0))))] := hD
  refine lv_aload_n hx hb dX6_init_33 rfl (lv_at hl 0 rfl) ?_
  refine lv_bipush (v := 8) hx hb dX6_init_34 (by decide) ?_
  refine va_newa (atype := .long) (ty := .long) (a0 := (8, .inr (.inl (fun _ => 0)))) (N' := 8) hx hb (hts _ (List.mem_cons_of_mem _ (List.mem_append_left _ (List.mem_of_getElem? (i := 3) rfl)))) rfl hK hP hD hS hA (fun _ => rfl) (by decide) (by decide) (by decide) (Nat.le_of_ble_eq_true rfl) (Nat.le_of_ble_eq_true rfl) dX6_init_36 (fun q_4 cA_4 H hK hP hD hS => ?_)
  have hK : va_K (dC, dI) vwCl [(cA_1, .long), (cA_2, .long), (cA_3, .long), (cA_4, .long)] s := hK
  have hP : va_P (dC, dI) vwCl [(h0, .inr (11, [.ref q_1, .ref q_2, .ref q_3, .int 0, .null, .null, .long 0, .long 0, .long 0, .long 0, .int 0])), (q_1, .inl (cA_1, 80, .inr (.inl (fun _ => 0)))), (q_2, .inl (cA_2, 80, .inr (.inl (fun _ => 0)))), (q_3, .inl (cA_3, 80, .inr (.inl (fun _ => 0)))), (q_4, .inl (cA_4, 8, .inr (.inl (fun _ => 0))))] H := hP
  have hD : va_D A [(h0, .inr (11, [.ref q_1, .ref q_2, .ref q_3, .int 0, .null, .null, .long 0, .long 0, .long 0, .long 0, .int 0])), (q_1, .inl (cA_1, 80, .inr (.inl (fun _ => 0)))), (q_2, .inl (cA_2, 80, .inr (.inl (fun _ => 0)))), (q_3, .inl (cA_3, 80, .inr (.inl (fun _ => 0)))), (q_4, .inl (cA_4, 8, .inr (.inl (fun _ => 0))))] := hD
  refine W.widen (k := 4) (n := 248) (Nat.le_of_ble_eq_true rfl) (Nat.le_of_ble_eq_true rfl) ?_
  refine va_putF (D := (dC, dI)) (ci := 11) (v := .ref q_4) (ty := .array .long) (C := RX6) (T := TX6) (N := 11) hx hb hts (fun _ h9 => List.mem_cons_of_mem _ (List.mem_append_right _ (h9))) tyX6 tyX6_ok nmX6 hown hK hP hD hS 0 rfl rfl 4 (by decide) (hts _ (List.mem_cons_of_mem _ (List.mem_append_left _ (List.mem_of_getElem? (i := 8) rfl)))) (fun _ h9 => h9) rfl hin rfl (by decide +kernel) rfl rfl (Nat.le_of_ble_eq_true rfl) dX6_init_38 (fun H locs hP hD hS => ?_)
  have hP : va_P (dC, dI) vwCl [(h0, .inr (11, [.ref q_1, .ref q_2, .ref q_3, .int 0, .ref q_4, .null, .long 0, .long 0, .long 0, .long 0, .int 0])), (q_1, .inl (cA_1, 80, .inr (.inl (fun _ => 0)))), (q_2, .inl (cA_2, 80, .inr (.inl (fun _ => 0)))), (q_3, .inl (cA_3, 80, .inr (.inl (fun _ => 0)))), (q_4, .inl (cA_4, 8, .inr (.inl (fun _ => 0))))] H := hP
  have hD : va_D A [(h0, .inr (11, [.ref q_1, .ref q_2, .ref q_3, .int 0, .ref q_4, .null, .long 0, .long 0, .long 0, .long 0, .int 0])), (q_1, .inl (cA_1, 80, .inr (.inl (fun _ => 0)))), (q_2, .inl (cA_2, 80, .inr (.inl (fun _ => 0)))), (q_3, .inl (cA_3, 80, .inr (.inl (fun _ => 0)))), (q_4, .inl (cA_4, 8, .inr (.inl (fun _ => 0))))] := hD
  refine lv_aload_n hx hb dX6_init_41 rfl (lv_at hl 0 rfl) ?_
  refine lv_bipush (v := 8) hx hb dX6_init_42 (by decide) ?_
  refine va_newa (atype := .long) (ty := .long) (a0 := (8, .inr (.inl (fun _ => 0)))) (N' := 8) hx hb (hts _ (List.mem_cons_of_mem _ (List.mem_append_left _ (List.mem_of_getElem? (i := 3) rfl)))) rfl hK hP hD hS hA (fun _ => rfl) (by decide) (by decide) (by decide) (Nat.le_of_ble_eq_true rfl) (Nat.le_of_ble_eq_true rfl) dX6_init_44 (fun q_5 cA_5 H hK hP hD hS => ?_)
  have hK : va_K (dC, dI) vwCl [(cA_1, .long), (cA_2, .long), (cA_3, .long), (cA_4, .long), (cA_5, .long)] s := hK
  have hP : va_P (dC, dI) vwCl [(h0, .inr (11, [.ref q_1, .ref q_2, .ref q_3, .int 0, .ref q_4, .null, .long 0, .long 0, .long 0, .long 0, .int 0])), (q_1, .inl (cA_1, 80, .inr (.inl (fun _ => 0)))), (q_2, .inl (cA_2, 80, .inr (.inl (fun _ => 0)))), (q_3, .inl (cA_3, 80, .inr (.inl (fun _ => 0)))), (q_4, .inl (cA_4, 8, .inr (.inl (fun _ => 0)))), (q_5, .inl (cA_5, 8, .inr (.inl (fun _ => 0))))] H := hP
  have hD : va_D A [(h0, .inr (11, [.ref q_1, .ref q_2, .ref q_3, .int 0, .ref q_4, .null, .long 0, .long 0, .long 0, .long 0, .int 0])), (q_1, .inl (cA_1, 80, .inr (.inl (fun _ => 0)))), (q_2, .inl (cA_2, 80, .inr (.inl (fun _ => 0)))), (q_3, .inl (cA_3, 80, .inr (.inl (fun _ => 0)))), (q_4, .inl (cA_4, 8, .inr (.inl (fun _ => 0)))), (q_5, .inl (cA_5, 8, .inr (.inl (fun _ => 0))))] := hD
  refine W.widen (k := 5) (n := 256) (Nat.le_of_ble_eq_true rfl) (Nat.le_of_ble_eq_true rfl) ?_
  refine va_putF (D := (dC, dI)) (ci := 11) (v := .ref q_5) (ty := .array .long) (C := RX6) (T := TX6) (N := 11) hx hb hts (fun _ h9 => List.mem_cons_of_mem _ (List.mem_append_right _ (h9))) tyX6 tyX6_ok nmX6 hown hK hP hD hS 0 rfl rfl 5 (by decide) (hts _ (List.mem_cons_of_mem _ (List.mem_append_left _ (List.mem_of_getElem? (i := 9) rfl)))) (fun _ h9 => h9) rfl hin rfl (by decide +kernel) rfl rfl (Nat.le_of_ble_eq_true rfl) dX6_init_46 (fun H locs hP hD hS => ?_)
  have hP : va_P (dC, dI) vwCl [(h0, .inr (11, [.ref q_1, .ref q_2, .ref q_3, .int 0, .ref q_4, .ref q_5, .long 0, .long 0, .long 0, .long 0, .int 0])), (q_1, .inl (cA_1, 80, .inr (.inl (fun _ => 0)))), (q_2, .inl (cA_2, 80, .inr (.inl (fun _ => 0)))), (q_3, .inl (cA_3, 80, .inr (.inl (fun _ => 0)))), (q_4, .inl (cA_4, 8, .inr (.inl (fun _ => 0)))), (q_5, .inl (cA_5, 8, .inr (.inl (fun _ => 0))))] H := hP
  have hD : va_D A [(h0, .inr (11, [.ref q_1, .ref q_2, .ref q_3, .int 0, .ref q_4, .ref q_5, .long 0, .long 0, .long 0, .long 0, .int 0])), (q_1, .inl (cA_1, 80, .inr (.inl (fun _ => 0)))), (q_2, .inl (cA_2, 80, .inr (.inl (fun _ => 0)))), (q_3, .inl (cA_3, 80, .inr (.inl (fun _ => 0)))), (q_4, .inl (cA_4, 8, .inr (.inl (fun _ => 0)))), (q_5, .inl (cA_5, 8, .inr (.inl (fun _ => 0))))] := hD
  refine lv_aload_n hx hb dX6_init_49 rfl (lv_at hl 0 rfl) ?_
  refine lv_lconst (v := (0 : Int32).toInt64) hx hb dX6_init_50 (by decide) ?_
  refine va_put (D := (dC, dI)) (ci := 11) (v := .long ((0 : Int32).toInt64)) (ty := .long) (C := RX6) (T := TX6) (N := 11) hx hb hts (fun _ h9 => List.mem_cons_of_mem _ (List.mem_append_right _ (h9))) tyX6 tyX6_ok nmX6 hown hK hP hD hS 0 rfl rfl 6 (by decide) (hts _ (List.mem_cons_of_mem _ (List.mem_append_left _ (List.mem_of_getElem? (i := 10) rfl)))) (fun _ h9 => h9) rfl (by decide +kernel) rfl rfl (Nat.le_of_ble_eq_true rfl) dX6_init_51 (fun H locs hP hD hS => ?_)
  have hP : va_P (dC, dI) vwCl [(h0, .inr (11, [.ref q_1, .ref q_2, .ref q_3, .int 0, .ref q_4, .ref q_5, .long ((0 : Int32).toInt64), .long 0, .long 0, .long 0, .int 0])), (q_1, .inl (cA_1, 80, .inr (.inl (fun _ => 0)))), (q_2, .inl (cA_2, 80, .inr (.inl (fun _ => 0)))), (q_3, .inl (cA_3, 80, .inr (.inl (fun _ => 0)))), (q_4, .inl (cA_4, 8, .inr (.inl (fun _ => 0)))), (q_5, .inl (cA_5, 8, .inr (.inl (fun _ => 0))))] H := hP
  have hD : va_D A [(h0, .inr (11, [.ref q_1, .ref q_2, .ref q_3, .int 0, .ref q_4, .ref q_5, .long ((0 : Int32).toInt64), .long 0, .long 0, .long 0, .int 0])), (q_1, .inl (cA_1, 80, .inr (.inl (fun _ => 0)))), (q_2, .inl (cA_2, 80, .inr (.inl (fun _ => 0)))), (q_3, .inl (cA_3, 80, .inr (.inl (fun _ => 0)))), (q_4, .inl (cA_4, 8, .inr (.inl (fun _ => 0)))), (q_5, .inl (cA_5, 8, .inr (.inl (fun _ => 0))))] := hD
  refine lv_aload_n hx hb dX6_init_54 rfl (lv_at hl 0 rfl) ?_
  refine lv_lconst (v := (1 : Int32).toInt64) hx hb dX6_init_55 (by decide) ?_
  refine va_put (D := (dC, dI)) (ci := 11) (v := .long ((1 : Int32).toInt64)) (ty := .long) (C := RX6) (T := TX6) (N := 11) hx hb hts (fun _ h9 => List.mem_cons_of_mem _ (List.mem_append_right _ (h9))) tyX6 tyX6_ok nmX6 hown hK hP hD hS 0 rfl rfl 7 (by decide) (hts _ (List.mem_cons_of_mem _ (List.mem_append_left _ (List.mem_of_getElem? (i := 11) rfl)))) (fun _ h9 => h9) rfl (by decide +kernel) rfl rfl (Nat.le_of_ble_eq_true rfl) dX6_init_56 (fun H locs hP hD hS => ?_)
  have hP : va_P (dC, dI) vwCl [(h0, .inr (11, [.ref q_1, .ref q_2, .ref q_3, .int 0, .ref q_4, .ref q_5, .long ((0 : Int32).toInt64), .long ((1 : Int32).toInt64), .long 0, .long 0, .int 0])), (q_1, .inl (cA_1, 80, .inr (.inl (fun _ => 0)))), (q_2, .inl (cA_2, 80, .inr (.inl (fun _ => 0)))), (q_3, .inl (cA_3, 80, .inr (.inl (fun _ => 0)))), (q_4, .inl (cA_4, 8, .inr (.inl (fun _ => 0)))), (q_5, .inl (cA_5, 8, .inr (.inl (fun _ => 0))))] H := hP
  have hD : va_D A [(h0, .inr (11, [.ref q_1, .ref q_2, .ref q_3, .int 0, .ref q_4, .ref q_5, .long ((0 : Int32).toInt64), .long ((1 : Int32).toInt64), .long 0, .long 0, .int 0])), (q_1, .inl (cA_1, 80, .inr (.inl (fun _ => 0)))), (q_2, .inl (cA_2, 80, .inr (.inl (fun _ => 0)))), (q_3, .inl (cA_3, 80, .inr (.inl (fun _ => 0)))), (q_4, .inl (cA_4, 8, .inr (.inl (fun _ => 0)))), (q_5, .inl (cA_5, 8, .inr (.inl (fun _ => 0))))] := hD
  refine lv_aload_n hx hb dX6_init_59 rfl (lv_at hl 0 rfl) ?_
  refine lv_lconst (v := (0 : Int32).toInt64) hx hb dX6_init_60 (by decide) ?_
  refine va_put (D := (dC, dI)) (ci := 11) (v := .long ((0 : Int32).toInt64)) (ty := .long) (C := RX6) (T := TX6) (N := 11) hx hb hts (fun _ h9 => List.mem_cons_of_mem _ (List.mem_append_right _ (h9))) tyX6 tyX6_ok nmX6 hown hK hP hD hS 0 rfl rfl 8 (by decide) (hts _ (List.mem_cons_of_mem _ (List.mem_append_left _ (List.mem_of_getElem? (i := 12) rfl)))) (fun _ h9 => h9) rfl (by decide +kernel) rfl rfl (Nat.le_of_ble_eq_true rfl) dX6_init_61 (fun H locs hP hD hS => ?_)
  have hP : va_P (dC, dI) vwCl [(h0, .inr (11, [.ref q_1, .ref q_2, .ref q_3, .int 0, .ref q_4, .ref q_5, .long ((0 : Int32).toInt64), .long ((1 : Int32).toInt64), .long ((0 : Int32).toInt64), .long 0, .int 0])), (q_1, .inl (cA_1, 80, .inr (.inl (fun _ => 0)))), (q_2, .inl (cA_2, 80, .inr (.inl (fun _ => 0)))), (q_3, .inl (cA_3, 80, .inr (.inl (fun _ => 0)))), (q_4, .inl (cA_4, 8, .inr (.inl (fun _ => 0)))), (q_5, .inl (cA_5, 8, .inr (.inl (fun _ => 0))))] H := hP
  have hD : va_D A [(h0, .inr (11, [.ref q_1, .ref q_2, .ref q_3, .int 0, .ref q_4, .ref q_5, .long ((0 : Int32).toInt64), .long ((1 : Int32).toInt64), .long ((0 : Int32).toInt64), .long 0, .int 0])), (q_1, .inl (cA_1, 80, .inr (.inl (fun _ => 0)))), (q_2, .inl (cA_2, 80, .inr (.inl (fun _ => 0)))), (q_3, .inl (cA_3, 80, .inr (.inl (fun _ => 0)))), (q_4, .inl (cA_4, 8, .inr (.inl (fun _ => 0)))), (q_5, .inl (cA_5, 8, .inr (.inl (fun _ => 0))))] := hD
  refine lv_aload_n hx hb dX6_init_64 rfl (lv_at hl 0 rfl) ?_
  refine lv_lconst (v := (0 : Int32).toInt64) hx hb dX6_init_65 (by decide) ?_
  refine va_put (D := (dC, dI)) (ci := 11) (v := .long ((0 : Int32).toInt64)) (ty := .long) (C := RX6) (T := TX6) (N := 11) hx hb hts (fun _ h9 => List.mem_cons_of_mem _ (List.mem_append_right _ (h9))) tyX6 tyX6_ok nmX6 hown hK hP hD hS 0 rfl rfl 9 (by decide) (hts _ (List.mem_cons_of_mem _ (List.mem_append_left _ (List.mem_of_getElem? (i := 13) rfl)))) (fun _ h9 => h9) rfl (by decide +kernel) rfl rfl (Nat.le_of_ble_eq_true rfl) dX6_init_66 (fun H locs hP hD hS => ?_)
  have hP : va_P (dC, dI) vwCl [(h0, .inr (11, [.ref q_1, .ref q_2, .ref q_3, .int 0, .ref q_4, .ref q_5, .long ((0 : Int32).toInt64), .long ((1 : Int32).toInt64), .long ((0 : Int32).toInt64), .long ((0 : Int32).toInt64), .int 0])), (q_1, .inl (cA_1, 80, .inr (.inl (fun _ => 0)))), (q_2, .inl (cA_2, 80, .inr (.inl (fun _ => 0)))), (q_3, .inl (cA_3, 80, .inr (.inl (fun _ => 0)))), (q_4, .inl (cA_4, 8, .inr (.inl (fun _ => 0)))), (q_5, .inl (cA_5, 8, .inr (.inl (fun _ => 0))))] H := hP
  have hD : va_D A [(h0, .inr (11, [.ref q_1, .ref q_2, .ref q_3, .int 0, .ref q_4, .ref q_5, .long ((0 : Int32).toInt64), .long ((1 : Int32).toInt64), .long ((0 : Int32).toInt64), .long ((0 : Int32).toInt64), .int 0])), (q_1, .inl (cA_1, 80, .inr (.inl (fun _ => 0)))), (q_2, .inl (cA_2, 80, .inr (.inl (fun _ => 0)))), (q_3, .inl (cA_3, 80, .inr (.inl (fun _ => 0)))), (q_4, .inl (cA_4, 8, .inr (.inl (fun _ => 0)))), (q_5, .inl (cA_5, 8, .inr (.inl (fun _ => 0))))] := hD
  refine lv_aload_n hx hb dX6_init_69 rfl (lv_at hl 0 rfl) ?_
  refine lv_iconst (v := 1) hx hb dX6_init_70 (by decide) ?_
  refine va_put (D := (dC, dI)) (ci := 11) (v := .int 1) (ty := .boolean) (C := RX6) (T := TX6) (N := 11) hx hb hts (fun _ h9 => List.mem_cons_of_mem _ (List.mem_append_right _ (h9))) tyX6 tyX6_ok nmX6 hown hK hP hD hS 0 rfl rfl 10 (by decide) (hts _ (List.mem_cons_of_mem _ (List.mem_append_left _ (List.mem_of_getElem? (i := 14) rfl)))) (fun _ h9 => h9) rfl (by decide +kernel) rfl rfl (Nat.le_of_ble_eq_true rfl) dX6_init_71 (fun H locs hP hD hS => ?_)
  have hP : va_P (dC, dI) vwCl [(h0, .inr (11, [.ref q_1, .ref q_2, .ref q_3, .int 0, .ref q_4, .ref q_5, .long ((0 : Int32).toInt64), .long ((1 : Int32).toInt64), .long ((0 : Int32).toInt64), .long ((0 : Int32).toInt64), .int 1])), (q_1, .inl (cA_1, 80, .inr (.inl (fun _ => 0)))), (q_2, .inl (cA_2, 80, .inr (.inl (fun _ => 0)))), (q_3, .inl (cA_3, 80, .inr (.inl (fun _ => 0)))), (q_4, .inl (cA_4, 8, .inr (.inl (fun _ => 0)))), (q_5, .inl (cA_5, 8, .inr (.inl (fun _ => 0))))] H := hP
  have hD : va_D A [(h0, .inr (11, [.ref q_1, .ref q_2, .ref q_3, .int 0, .ref q_4, .ref q_5, .long ((0 : Int32).toInt64), .long ((1 : Int32).toInt64), .long ((0 : Int32).toInt64), .long ((0 : Int32).toInt64), .int 1])), (q_1, .inl (cA_1, 80, .inr (.inl (fun _ => 0)))), (q_2, .inl (cA_2, 80, .inr (.inl (fun _ => 0)))), (q_3, .inl (cA_3, 80, .inr (.inl (fun _ => 0)))), (q_4, .inl (cA_4, 8, .inr (.inl (fun _ => 0)))), (q_5, .inl (cA_5, 8, .inr (.inl (fun _ => 0))))] := hD
  refine W.widen (k := 5) (n := 256) (Nat.le_of_ble_eq_true rfl) (Nat.le_of_ble_eq_true rfl) ?_
  exact W.vret hx hb hr (fun t ht hW => ⟨⟨(), rfl, trivial, trivial⟩, hS.F ht⟩) hS.2.2 dX6_init_74
def v_c_X7_init : List Cond := .code yX7_init cX7_init 2 none :: ([.methodLink RX7 1 objectInit, .instanceMethod objectInit, .code objectInit ⟨#[0xb1]⟩ 1 none, .classLink RX7 7 RX1, .instantiable RX1 6, .initialized RX1, .methodLink RX7 9 yX1_init, .instanceMethod yX1_init, .fieldLink RX7 10 "VoussoirYard" "drawing" "LVoussoirYard$Drawing;", .classLink RX7 16 RX6, .instantiable RX6 11, .initialized RX6, .instanceMethod yX6_init, .fieldLink RX7 19 "VoussoirYard" "search" "LVoussoirYard$ThrustSearch;", .classLink RX7 23 RX0, .fieldLink RX7 25 "VoussoirYard" "kinds" "[LVoussoirYard$BlockKind;", .classLink RX7 29 RX3, .fieldLink RX7 31 "VoussoirYard" "masons" "[LVoussoirYard$Mason;", .classLink RX7 35 RX5, .fieldLink RX7 37 "VoussoirYard" "stones" "[LVoussoirYard$Stone;", .arrayClass .int, .fieldLink RX7 41 "VoussoirYard" "stoneOfPlace" "[I", .fieldLink RX7 45 "VoussoirYard" "loadOfPlace" "[I", .fieldLink RX7 48 "VoussoirYard" "triedLoads" "[I", .fieldLink RX7 51 "VoussoirYard" "kindCount" "I", .fieldLink RX7 55 "VoussoirYard" "masonCount" "I", .fieldLink RX7 58 "VoussoirYard" "stoneCount" "I", .fieldLink RX7 61 "VoussoirYard" "centreStrength" "I", .fieldLink RX7 64 "VoussoirYard" "isStanding" "Z", .fieldLink RX7 68 "VoussoirYard" "today" "I", .fieldLink RX7 71 "VoussoirYard" "lastSetDay" "I", .fieldLink RX7 74 "VoussoirYard" "moneySpent" "J"] ++ (wsX10 ++ (v_c_X1_init ++ (wsX70 ++ (wsX60 ++ (v_c_X6_init))))))
set_option maxRecDepth 20000 in
theorem i_c_X7_init : ∀ w ∈ v_c_X7_init, w ∈ lw_tbl := List.forall_mem_cons.mpr ⟨List.mem_of_getElem? (i := 92) (by decide +kernel), List.forall_mem_append.mpr ⟨List.forall_mem_cons.mpr ⟨List.mem_of_getElem? (i := 93) (by decide +kernel), List.forall_mem_cons.mpr ⟨List.mem_of_getElem? (i := 94) (by decide +kernel), List.forall_mem_cons.mpr ⟨List.mem_of_getElem? (i := 95) (by decide +kernel), List.forall_mem_cons.mpr ⟨List.mem_of_getElem? (i := 96) (by decide +kernel), List.forall_mem_cons.mpr ⟨List.mem_of_getElem? (i := 97) (by decide +kernel), List.forall_mem_cons.mpr ⟨List.mem_of_getElem? (i := 50) (by decide +kernel), List.forall_mem_cons.mpr ⟨List.mem_of_getElem? (i := 98) (by decide +kernel), List.forall_mem_cons.mpr ⟨List.mem_of_getElem? (i := 99) (by decide +kernel), List.forall_mem_cons.mpr ⟨List.mem_of_getElem? (i := 219) (by decide +kernel), List.forall_mem_cons.mpr ⟨List.mem_of_getElem? (i := 172) (by decide +kernel), List.forall_mem_cons.mpr ⟨List.mem_of_getElem? (i := 173) (by decide +kernel), List.forall_mem_cons.mpr ⟨List.mem_of_getElem? (i := 53) (by decide +kernel), List.forall_mem_cons.mpr ⟨List.mem_of_getElem? (i := 175) (by decide +kernel), List.forall_mem_cons.mpr ⟨List.mem_of_getElem? (i := 220) (by decide +kernel), List.forall_mem_cons.mpr ⟨List.mem_of_getElem? (i := 213) (by decide +kernel), List.forall_mem_cons.mpr ⟨List.mem_of_getElem? (i := 221) (by decide +kernel), List.forall_mem_cons.mpr ⟨List.mem_of_getElem? (i := 215) (by decide +kernel), List.forall_mem_cons.mpr ⟨List.mem_of_getElem? (i := 222) (by decide +kernel), List.forall_mem_cons.mpr ⟨List.mem_of_getElem? (i := 217) (by decide +kernel), List.forall_mem_cons.mpr ⟨List.mem_of_getElem? (i := 223) (by decide +kernel), List.forall_mem_cons.mpr ⟨List.mem_of_getElem? (i := 147) (by decide +kernel), List.forall_mem_cons.mpr ⟨List.mem_of_getElem? (i := 224) (by decide +kernel), List.forall_mem_cons.mpr ⟨List.mem_of_getElem? (i := 225) (by decide +kernel), List.forall_mem_cons.mpr ⟨List.mem_of_getElem? (i := 226) (by decide +kernel), List.forall_mem_cons.mpr ⟨List.mem_of_getElem? (i := 227) (by decide +kernel), List.forall_mem_cons.mpr ⟨List.mem_of_getElem? (i := 228) (by decide +kernel), List.forall_mem_cons.mpr ⟨List.mem_of_getElem? (i := 229) (by decide +kernel), List.forall_mem_cons.mpr ⟨List.mem_of_getElem? (i := 230) (by decide +kernel), List.forall_mem_cons.mpr ⟨List.mem_of_getElem? (i := 231) (by decide +kernel), List.forall_mem_cons.mpr ⟨List.mem_of_getElem? (i := 232) (by decide +kernel), List.forall_mem_cons.mpr ⟨List.mem_of_getElem? (i := 233) (by decide +kernel), List.forall_mem_cons.mpr ⟨List.mem_of_getElem? (i := 234) (by decide +kernel), fun _ h => absurd h List.not_mem_nil⟩⟩⟩⟩⟩⟩⟩⟩⟩⟩⟩⟩⟩⟩⟩⟩⟩⟩⟩⟩⟩⟩⟩⟩⟩⟩⟩⟩⟩⟩⟩⟩, List.forall_mem_append.mpr ⟨inX1, List.forall_mem_append.mpr ⟨i_c_X1_init, List.forall_mem_append.mpr ⟨inX7, List.forall_mem_append.mpr ⟨inX6, i_c_X6_init⟩⟩⟩⟩⟩⟩
set_option maxHeartbeats 4000000 in
set_option maxRecDepth 100000 in
theorem c_X7_init (l : Launch) (dC : Nat → ClassId) (dI : Nat → Nat → Nat) (e0 : Nat) (h0 : Nat) (sz : Nat) : Met l yX7_init v_c_X7_init ({ frames := 3, cells := 26, slots := 401, locals := 71 }) (fz_P (dC, dI) e0 [(h0, .inr (12, [.null, .null, .null, .null, .null, .null, .null, .null, .int 0, .int 0, .int 0, .int 0, .int 0, .int 0, .int 0, .long 0]))] [] sz (va_A [(h0, .inr (12, [.null, .null, .null, .null, .null, .null, .null, .null, .int 0, .int 0, .int 0, .int 0, .int 0, .int 0, .int 0, .long 0]))] sz) [.ref h0]) (va_Qv (fun (u : Unit) => True) (fun (u : Unit) (t : State) => ∃ hd : Nat, ∃ hse : Nat, ∃ hki : Nat, ∃ hma : Nat, ∃ hst : Nat, ∃ hsp : Nat, ∃ hlp : Nat, ∃ htl : Nat, ∃ hj : Nat, ∃ hpr : Nat, ∃ hqd : Nat, ∃ hj0 : Nat, ∃ cR : ClassId, ∃ cI : ClassId, ∃ cK : ClassId, ∃ cM : ClassId, ∃ fj : Nat → Option Nat, ∃ fsp : Nat → Int32, ∃ fki : Nat → Option Nat, ∃ fma : Nat → Option Nat, (fj 0 = some hj0) ∧ (∀ j : Nat, j < 8 → fsp j = -1) ∧ va_P (dC, dI) vwCl [(h0, .inr (12, [.ref hd, .ref hse, .ref hki, .ref hma, .ref hst, .ref hsp, .ref hlp, .ref htl, .int 0, .int 0, .int 0, .int 0, .int 0, .int 0, .int 0, .long ((0 : Int32).toInt64)])), (hd, .inr (6, [.ref hj, .ref hpr, .ref hqd, .int 0, .int 0, .int 1])), (hj, .inl (cR, 8, .inr (.inr (.inr (.inr fj))))), (hj0, .inr (7, [.int 0, .int 0, .int 0, .int 0])), (hpr, .inr (7, [.int 0, .int 0, .int 0, .int 0])), (hsp, .inl (cI, 8, .inl fsp)), (hki, .inl (cK, 6, .inr (.inr (.inr (.inr fki))))), (hma, .inl (cM, 4, .inr (.inr (.inr (.inr fma)))))] t.heap ∧ va_K (dC, dI) vwCl [(cR, .object RX2), (cI, .int), (cK, .object RX0), (cM, .object RX3)] t ∧ va_D (va_A [(h0, .inr (12, [.null, .null, .null, .null, .null, .null, .null, .null, .int 0, .int 0, .int 0, .int 0, .int 0, .int 0, .int 0, .long 0]))] sz) [(h0, .inr (12, [.ref hd, .ref hse, .ref hki, .ref hma, .ref hst, .ref hsp, .ref hlp, .ref htl, .int 0, .int 0, .int 0, .int 0, .int 0, .int 0, .int 0, .long ((0 : Int32).toInt64)])), (hd, .inr (6, [.ref hj, .ref hpr, .ref hqd, .int 0, .int 0, .int 1])), (hj, .inl (cR, 8, .inr (.inr (.inr (.inr fj))))), (hj0, .inr (7, [.int 0, .int 0, .int 0, .int 0])), (hpr, .inr (7, [.int 0, .int 0, .int 0, .int 0])), (hsp, .inl (cI, 8, .inl fsp)), (hki, .inl (cK, 6, .inr (.inr (.inr (.inr fki))))), (hma, .inl (cM, 4, .inr (.inr (.inr (.inr fma)))))]) (va_A [(h0, .inr (12, [.null, .null, .null, .null, .null, .null, .null, .null, .int 0, .int 0, .int 0, .int 0, .int 0, .int 0, .int 0, .long 0]))] sz)) 26 401 (va_A [(h0, .inr (12, [.null, .null, .null, .null, .null, .null, .null, .null, .int 0, .int 0, .int 0, .int 0, .int 0, .int 0, .int 0, .long 0]))] sz) := by
  refine Met.ofW (cc := cX7_init) (maxL := 2) (ret := none) (by decide) rfl ?_
  intro p e s m args below meth c s₁ B hml hv
  obtain ⟨rfl, hsz, hP, hK, hD0, hAm⟩ := hv
  have hx := B.exec
  have hb := B.bytes
  have hr := B.returns
  have hts := atoms_spec (ws := v_c_X7_init) B.pre
  have hown : s.vm.findClass RX7 = some m.cls := findClass_of_methodNamed B.named
  have hlocks := B.notSynchronized
  have hin : meth.name = "<init>" := (name_of_methodNamed B.named B.method).1
  subst hsz
  have hD := hD0.self (sz := s.heap.size)
  generalize hAe : va_A [(h0, .inr (12, [.null, .null, .null, .null, .null, .null, .null, .null, .int 0, .int 0, .int 0, .int 0, .int 0, .int 0, .int 0, .long 0]))] s.heap.size = A at hD hAm ⊢
  have hA : ∀ q : Nat, s.heap.size ≤ q → A q := fun q h => by rw [← hAe]; exact Or.inr h
  have hS : va_S A s.heap s.heap [] := va_S.rf
  have hP : va_P (dC, dI) vwCl [(h0, .inr (12, [.null, .null, .null, .null, .null, .null, .null, .null, .int 0, .int 0, .int 0, .int 0, .int 0, .int 0, .int 0, .long 0]))] s.heap := hP
  have hl := lv_entry ([.ref h0]) (n := 2) (Nat.le_of_ble_eq_true rfl)
  rw [lg_entry_eq]
  generalize (lg_sl ([.ref h0]) ++ List.replicate (2 - (lg_sl ([.ref h0])).length) Slot.unset).toArray = ls at hl ⊢
  have hl : lv_has ls 2 [(0, .ref h0)] := hl
  refine lv_aload_n hx hb dX7_init_0 rfl (lv_at hl 0 rfl) ?_
  refine W.objInit hx hb hown (hts _ (List.mem_cons_of_mem _ (List.mem_append_left _ (List.mem_of_getElem? (i := 0) rfl)))) (hts _ (List.mem_cons_of_mem _ (List.mem_append_left _ (List.mem_of_getElem? (i := 1) rfl)))) (hts _ (List.mem_cons_of_mem _ (List.mem_append_left _ (List.mem_of_getElem? (i := 2) rfl)))) rfl (by rw [hml]; exact hl.1) rfl dX7_init_1 (Nat.le_of_ble_eq_true rfl) (Nat.le_of_ble_eq_true rfl) ?_
  refine W.eq (g2 := F0 m 4 ls []) rfl ?_
  refine lv_aload_n hx hb dX7_init_4 rfl (lv_at hl 0 rfl) ?_
  refine va_new (ci := 6) (fs := [.null, .null, .null, .int 0, .int 0, .int 0]) (C := RX1) (T := TX1) (N := 6) hx hb hts (fun _ h9 => List.mem_cons_of_mem _ (List.mem_append_right _ (List.mem_append_left _ h9))) tyX1 tyX1_ok hown (hts _ (List.mem_cons_of_mem _ (List.mem_append_left _ (List.mem_of_getElem? (i := 3) rfl)))) (hts _ (List.mem_cons_of_mem _ (List.mem_append_left _ (List.mem_of_getElem? (i := 4) rfl)))) (hts _ (List.mem_cons_of_mem _ (List.mem_append_left _ (List.mem_of_getElem? (i := 5) rfl)))) hK hP hD hS hA rfl (fun j hj => by rcases (show j = 0 ∨ j = 1 ∨ j = 2 ∨ j = 3 ∨ j = 4 ∨ j = 5 by omega) with rfl | rfl | rfl | rfl | rfl | rfl <;> rfl) (Nat.le_of_ble_eq_true rfl) (Nat.le_of_ble_eq_true rfl) dX7_init_5 (fun q_1 H hP hD hS => ?_)
  have hP : va_P (dC, dI) vwCl [(h0, .inr (12, [.null, .null, .null, .null, .null, .null, .null, .null, .int 0, .int 0, .int 0, .int 0, .int 0, .int 0, .int 0, .long 0])), (q_1, .inr (6, [.null, .null, .null, .int 0, .int 0, .int 0]))] H := hP
  have hD : va_D A [(h0, .inr (12, [.null, .null, .null, .null, .null, .null, .null, .null, .int 0, .int 0, .int 0, .int 0, .int 0, .int 0, .int 0, .long 0])), (q_1, .inr (6, [.null, .null, .null, .int 0, .int 0, .int 0]))] := hD
  refine W.widen (k := 1) (n := 6) (Nat.le_of_ble_eq_true rfl) (Nat.le_of_ble_eq_true rfl) ?_
  refine lv_dup hx hb dX7_init_8 rfl ?_
  have hPc := hP.sub (ws' := [(q_1, .inr (6, [.null, .null, .null, .int 0, .int 0, .int 0]))]) [1] rfl
  have hDc := hD.sub (ws' := [(q_1, .inr (6, [.null, .null, .null, .int 0, .int 0, .int 0]))]) [1] (by decide) rfl
  have hKc := hK.sub (tys' := []) [] rfl
  have hFc := va_free (wc := [(q_1, .inr (6, [.null, .null, .null, .int 0, .int 0, .int 0]))]) hD hS hA [1] rfl
  refine va_callv (va_runI (As := []) (rest := [.ref q_1, .ref h0]) ⟨hx, hb, hml, hown, hts⟩ (c_X1_init l dC dI e0 q_1 H.size) (cwI 0 hts (goodIn_sub (fun _ h9 => List.mem_cons_of_mem _ (List.mem_append_right _ (List.mem_append_right _ (List.mem_append_left _ h9)))) (by decide +kernel)) rfl rfl rfl (hts _ (List.mem_cons_of_mem _ (List.mem_append_left _ (List.mem_of_getElem? (i := 5) rfl)))) (hts _ (List.mem_cons_of_mem _ (List.mem_append_left _ (List.mem_of_getElem? (i := 6) rfl)))) (hts _ (List.mem_cons_of_mem _ (List.mem_append_left _ (List.mem_of_getElem? (i := 7) rfl)))) rfl (by decide +kernel) ⟨(Nat.le_of_ble_eq_true rfl), (Nat.le_of_ble_eq_true rfl)⟩) ⟨fz_blind, fz_pre hPc hKc hDc hAm hS hFc⟩ rfl rfl hl.1 rfl (lv_room (Nat.le_of_ble_eq_true rfl)) dX7_init_9 ⟨(Nat.le_of_ble_eq_true rfl), (Nat.le_of_ble_eq_true rfl)⟩) hS (fun q _ h => hFc q h) hFc (fun u t H1 locs ht hvm hw hB hz1 hk1 hS => ?_)
  obtain ⟨hj_2, hpr_3, hqd_4, cR_5, fj_6, hj_7, hj0f_8, hP1, hK1, hD1⟩ := hB
  rw [ht] at hP1
  have hK1 := va_K.moved hvm.symm hK1
  obtain ⟨hP, hD⟩ := va_join (wr := [(h0, .inr (12, [.null, .null, .null, .null, .null, .null, .null, .null, .int 0, .int 0, .int 0, .int 0, .int 0, .int 0, .int 0, .long 0]))]) (w1 := [(q_1, .inr (6, [.ref hj_2, .ref hpr_3, .ref hqd_4, .int 0, .int 0, .int 1])), (hj_2, .inl (cR_5, 8, .inr (.inr (.inr (.inr fj_6))))), (hj_7, .inr (7, [.int 0, .int 0, .int 0, .int 0])), (hpr_3, .inr (7, [.int 0, .int 0, .int 0, .int 0]))]) hP hD [1] [0] rfl rfl (by decide) (by decide) hk1 hFc hP1 hD1
  have hK := hK.app hK1
  generalize H1 = H at hP hS ⊢
  have hP : va_P (dC, dI) vwCl [(h0, .inr (12, [.null, .null, .null, .null, .null, .null, .null, .null, .int 0, .int 0, .int 0, .int 0, .int 0, .int 0, .int 0, .long 0])), (q_1, .inr (6, [.ref hj_2, .ref hpr_3, .ref hqd_4, .int 0, .int 0, .int 1])), (hj_2, .inl (cR_5, 8, .inr (.inr (.inr (.inr fj_6))))), (hj_7, .inr (7, [.int 0, .int 0, .int 0, .int 0])), (hpr_3, .inr (7, [.int 0, .int 0, .int 0, .int 0]))] H := hP
  have hD : va_D A [(h0, .inr (12, [.null, .null, .null, .null, .null, .null, .null, .null, .int 0, .int 0, .int 0, .int 0, .int 0, .int 0, .int 0, .long 0])), (q_1, .inr (6, [.ref hj_2, .ref hpr_3, .ref hqd_4, .int 0, .int 0, .int 1])), (hj_2, .inl (cR_5, 8, .inr (.inr (.inr (.inr fj_6))))), (hj_7, .inr (7, [.int 0, .int 0, .int 0, .int 0])), (hpr_3, .inr (7, [.int 0, .int 0, .int 0, .int 0]))] := hD
  have hK : va_K (dC, dI) vwCl [(cR_5, .object RX2)] s := hK
  refine W.widen (k := 14) (n := 60) (Nat.le_of_ble_eq_true rfl) (Nat.le_of_ble_eq_true rfl) ?_
  refine va_putF (D := (dC, dI)) (ci := 12) (v := .ref q_1) (ty := .object "VoussoirYard$Drawing") (C := RX7) (T := TX7) (N := 16) hx hb hts (fun _ h9 => List.mem_cons_of_mem _ (List.mem_append_right _ (List.mem_append_right _ (List.mem_append_right _ (List.mem_append_left _ h9))))) tyX7 tyX7_ok nmX7 hown hK hP hD hS 0 rfl rfl 0 (by decide) (hts _ (List.mem_cons_of_mem _ (List.mem_append_left _ (List.mem_of_getElem? (i := 8) rfl)))) (fun _ h9 => h9) rfl hin rfl (by decide +kernel) rfl rfl (Nat.le_of_ble_eq_true rfl) dX7_init_12 (fun H locs hP hD hS => ?_)
  have hP : va_P (dC, dI) vwCl [(h0, .inr (12, [.ref q_1, .null, .null, .null, .null, .null, .null, .null, .int 0, .int 0, .int 0, .int 0, .int 0, .int 0, .int 0, .long 0])), (q_1, .inr (6, [.ref hj_2, .ref hpr_3, .ref hqd_4, .int 0, .int 0, .int 1])), (hj_2, .inl (cR_5, 8, .inr (.inr (.inr (.inr fj_6))))), (hj_7, .inr (7, [.int 0, .int 0, .int 0, .int 0])), (hpr_3, .inr (7, [.int 0, .int 0, .int 0, .int 0]))] H := hP
  have hD : va_D A [(h0, .inr (12, [.ref q_1, .null, .null, .null, .null, .null, .null, .null, .int 0, .int 0, .int 0, .int 0, .int 0, .int 0, .int 0, .long 0])), (q_1, .inr (6, [.ref hj_2, .ref hpr_3, .ref hqd_4, .int 0, .int 0, .int 1])), (hj_2, .inl (cR_5, 8, .inr (.inr (.inr (.inr fj_6))))), (hj_7, .inr (7, [.int 0, .int 0, .int 0, .int 0])), (hpr_3, .inr (7, [.int 0, .int 0, .int 0, .int 0]))] := hD
  refine lv_aload_n hx hb dX7_init_15 rfl (lv_at hl 0 rfl) ?_
  refine va_new (ci := 11) (fs := [.null, .null, .null, .int 0, .null, .null, .long 0, .long 0, .long 0, .long 0, .int 0]) (C := RX6) (T := TX6) (N := 11) hx hb hts (fun _ h9 => List.mem_cons_of_mem _ (List.mem_append_right _ (List.mem_append_right _ (List.mem_append_right _ (List.mem_append_right _ (List.mem_append_left _ h9)))))) tyX6 tyX6_ok hown (hts _ (List.mem_cons_of_mem _ (List.mem_append_left _ (List.mem_of_getElem? (i := 9) rfl)))) (hts _ (List.mem_cons_of_mem _ (List.mem_append_left _ (List.mem_of_getElem? (i := 10) rfl)))) (hts _ (List.mem_cons_of_mem _ (List.mem_append_left _ (List.mem_of_getElem? (i := 11) rfl)))) hK hP hD hS hA rfl (fun j hj => by rcases (show j = 0 ∨ j = 1 ∨ j = 2 ∨ j = 3 ∨ j = 4 ∨ j = 5 ∨ j = 6 ∨ j = 7 ∨ j = 8 ∨ j = 9 ∨ j = 10 by omega) with rfl | rfl | rfl | rfl | rfl | rfl | rfl | rfl | rfl | rfl | rfl <;> rfl) (Nat.le_of_ble_eq_true rfl) (Nat.le_of_ble_eq_true rfl) dX7_init_16 (fun q_9 H hP hD hS => ?_)
  have hP : va_P (dC, dI) vwCl [(h0, .inr (12, [.ref q_1, .null, .null, .null, .null, .null, .null, .null, .int 0, .int 0, .int 0, .int 0, .int 0, .int 0, .int 0, .long 0])), (q_1, .inr (6, [.ref hj_2, .ref hpr_3, .ref hqd_4, .int 0, .int 0, .int 1])), (hj_2, .inl (cR_5, 8, .inr (.inr (.inr (.inr fj_6))))), (hj_7, .inr (7, [.int 0, .int 0, .int 0, .int 0])), (hpr_3, .inr (7, [.int 0, .int 0, .int 0, .int 0])), (q_9, .inr (11, [.null, .null, .null, .int 0, .null, .null, .long 0, .long 0, .long 0, .long 0, .int 0]))] H := hP
  have hD : va_D A [(h0, .inr (12, [.ref q_1, .null, .null, .null, .null, .null, .null, .null, .int 0, .int 0, .int 0, .int 0, .int 0, .int 0, .int 0, .long 0])), (q_1, .inr (6, [.ref hj_2, .ref hpr_3, .ref hqd_4, .int 0, .int 0, .int 1])), (hj_2, .inl (cR_5, 8, .inr (.inr (.inr (.inr fj_6))))), (hj_7, .inr (7, [.int 0, .int 0, .int 0, .int 0])), (hpr_3, .inr (7, [.int 0, .int 0, .int 0, .int 0])), (q_9, .inr (11, [.null, .null, .null, .int 0, .null, .null, .long 0, .long 0, .long 0, .long 0, .int 0]))] := hD
  refine W.widen (k := 15) (n := 71) (Nat.le_of_ble_eq_true rfl) (Nat.le_of_ble_eq_true rfl) ?_
  refine lv_dup hx hb dX7_init_19 rfl ?_
  have hPc := hP.sub (ws' := [(q_9, .inr (11, [.null, .null, .null, .int 0, .null, .null, .long 0, .long 0, .long 0, .long 0, .int 0]))]) [5] rfl
  have hDc := hD.sub (ws' := [(q_9, .inr (11, [.null, .null, .null, .int 0, .null, .null, .long 0, .long 0, .long 0, .long 0, .int 0]))]) [5] (by decide) rfl
  have hKc := hK.sub (tys' := []) [] rfl
  have hFc := va_free (wc := [(q_9, .inr (11, [.null, .null, .null, .int 0, .null, .null, .long 0, .long 0, .long 0, .long 0, .int 0]))]) hD hS hA [5] rfl
  refine va_callv (va_runIN (As := []) (rest := [.ref q_9, .ref h0]) ⟨hx, hb, hml, hown, hts⟩ (c_X6_init l dC dI e0 q_9 H.size) ⟨va_cnB 0 hts (goodIn_sub (fun _ h9 => List.mem_cons_of_mem _ (List.mem_append_right _ (List.mem_append_right _ (List.mem_append_right _ (List.mem_append_right _ (List.mem_append_right _ h9)))))) (by decide +kernel)) rfl rfl rfl hAm.1.1.1 (hts _ (List.mem_cons_of_mem _ (List.mem_append_left _ (List.mem_of_getElem? (i := 11) rfl)))) (by decide +kernel) ⟨(Nat.le_of_ble_eq_true rfl), (Nat.le_of_ble_eq_true rfl)⟩, rfl, (hts _ (List.mem_cons_of_mem _ (List.mem_append_left _ (List.mem_of_getElem? (i := 12) rfl))))⟩ ⟨fz_blind, fz_pre hPc hKc hDc hAm hS hFc⟩ rfl rfl hl.1 rfl (lv_room (Nat.le_of_ble_eq_true rfl)) dX7_init_20 ⟨(Nat.le_of_ble_eq_true rfl), (Nat.le_of_ble_eq_true rfl)⟩) hS (fun q _ h => hFc q h) hFc (fun u t H1 locs ht hvm hw hB hz1 hk1 hS => ?_)
  obtain ⟨hP, hD⟩ := fz_keepC (WC := [(q_9, .inr (11, [.null, .null, .null, .int 0, .null, .null, .long 0, .long 0, .long 0, .long 0, .int 0]))]) (WR := [(h0, .inr (12, [.ref q_1, .null, .null, .null, .null, .null, .null, .null, .int 0, .int 0, .int 0, .int 0, .int 0, .int 0, .int 0, .long 0])), (q_1, .inr (6, [.ref hj_2, .ref hpr_3, .ref hqd_4, .int 0, .int 0, .int 1])), (hj_2, .inl (cR_5, 8, .inr (.inr (.inr (.inr fj_6))))), (hj_7, .inr (7, [.int 0, .int 0, .int 0, .int 0])), (hpr_3, .inr (7, [.int 0, .int 0, .int 0, .int 0]))]) hP hD [5] [0, 1, 2, 3, 4] rfl rfl (by decide) (by decide) hk1 hFc
  generalize H1 = H at hP hS ⊢
  have hP : va_P (dC, dI) vwCl [(h0, .inr (12, [.ref q_1, .null, .null, .null, .null, .null, .null, .null, .int 0, .int 0, .int 0, .int 0, .int 0, .int 0, .int 0, .long 0])), (q_1, .inr (6, [.ref hj_2, .ref hpr_3, .ref hqd_4, .int 0, .int 0, .int 1])), (hj_2, .inl (cR_5, 8, .inr (.inr (.inr (.inr fj_6))))), (hj_7, .inr (7, [.int 0, .int 0, .int 0, .int 0])), (hpr_3, .inr (7, [.int 0, .int 0, .int 0, .int 0]))] H := hP
  have hD : va_D A [(h0, .inr (12, [.ref q_1, .null, .null, .null, .null, .null, .null, .null, .int 0, .int 0, .int 0, .int 0, .int 0, .int 0, .int 0, .long 0])), (q_1, .inr (6, [.ref hj_2, .ref hpr_3, .ref hqd_4, .int 0, .int 0, .int 1])), (hj_2, .inl (cR_5, 8, .inr (.inr (.inr (.inr fj_6))))), (hj_7, .inr (7, [.int 0, .int 0, .int 0, .int 0])), (hpr_3, .inr (7, [.int 0, .int 0, .int 0, .int 0]))] := hD
  have hK : va_K (dC, dI) vwCl [(cR_5, .object RX2)] s := hK
  refine W.widen (k := 20) (n := 327) (Nat.le_of_ble_eq_true rfl) (Nat.le_of_ble_eq_true rfl) ?_
  refine va_putF (D := (dC, dI)) (ci := 12) (v := .ref q_9) (ty := .object "VoussoirYard$ThrustSearch") (C := RX7) (T := TX7) (N := 16) hx hb hts (fun _ h9 => List.mem_cons_of_mem _ (List.mem_append_right _ (List.mem_append_right _ (List.mem_append_right _ (List.mem_append_left _ h9))))) tyX7 tyX7_ok nmX7 hown hK hP hD hS 0 rfl rfl 1 (by decide) (hts _ (List.mem_cons_of_mem _ (List.mem_append_left _ (List.mem_of_getElem? (i := 13) rfl)))) (fun _ h9 => h9) rfl hin rfl (by decide +kernel) rfl rfl (Nat.le_of_ble_eq_true rfl) dX7_init_23 (fun H locs hP hD hS => ?_)
  have hP : va_P (dC, dI) vwCl [(h0, .inr (12, [.ref q_1, .ref q_9, .null, .null, .null, .null, .null, .null, .int 0, .int 0, .int 0, .int 0, .int 0, .int 0, .int 0, .long 0])), (q_1, .inr (6, [.ref hj_2, .ref hpr_3, .ref hqd_4, .int 0, .int 0, .int 1])), (hj_2, .inl (cR_5, 8, .inr (.inr (.inr (.inr fj_6))))), (hj_7, .inr (7, [.int 0, .int 0, .int 0, .int 0])), (hpr_3, .inr (7, [.int 0, .int 0, .int 0, .int 0]))] H := hP
  have hD : va_D A [(h0, .inr (12, [.ref q_1, .ref q_9, .null, .null, .null, .null, .null, .null, .int 0, .int 0, .int 0, .int 0, .int 0, .int 0, .int 0, .long 0])), (q_1, .inr (6, [.ref hj_2, .ref hpr_3, .ref hqd_4, .int 0, .int 0, .int 1])), (hj_2, .inl (cR_5, 8, .inr (.inr (.inr (.inr fj_6))))), (hj_7, .inr (7, [.int 0, .int 0, .int 0, .int 0])), (hpr_3, .inr (7, [.int 0, .int 0, .int 0, .int 0]))] := hD
  refine lv_aload_n hx hb dX7_init_26 rfl (lv_at hl 0 rfl) ?_
  refine lv_bipush (v := 6) hx hb dX7_init_27 (by decide) ?_
  refine va_newq (C := RX0) (N' := 6) hx hb hown (hts _ (List.mem_cons_of_mem _ (List.mem_append_left _ (List.mem_of_getElem? (i := 14) rfl)))) hAm.1.2.2.2.2.1.2.1 hK hP hD hS hA (by decide) (by decide) (by decide) (Nat.le_of_ble_eq_true rfl) (Nat.le_of_ble_eq_true rfl) dX7_init_29 (fun q_10 cA_10 H hK hP hD hS => ?_)
  have hK : va_K (dC, dI) vwCl [(cR_5, .object RX2), (cA_10, .object RX0)] s := hK
  have hP : va_P (dC, dI) vwCl [(h0, .inr (12, [.ref q_1, .ref q_9, .null, .null, .null, .null, .null, .null, .int 0, .int 0, .int 0, .int 0, .int 0, .int 0, .int 0, .long 0])), (q_1, .inr (6, [.ref hj_2, .ref hpr_3, .ref hqd_4, .int 0, .int 0, .int 1])), (hj_2, .inl (cR_5, 8, .inr (.inr (.inr (.inr fj_6))))), (hj_7, .inr (7, [.int 0, .int 0, .int 0, .int 0])), (hpr_3, .inr (7, [.int 0, .int 0, .int 0, .int 0])), (q_10, .inl (cA_10, 6, .inr (.inr (.inr (.inr (fun _ => none))))))] H := hP
  have hD : va_D A [(h0, .inr (12, [.ref q_1, .ref q_9, .null, .null, .null, .null, .null, .null, .int 0, .int 0, .int 0, .int 0, .int 0, .int 0, .int 0, .long 0])), (q_1, .inr (6, [.ref hj_2, .ref hpr_3, .ref hqd_4, .int 0, .int 0, .int 1])), (hj_2, .inl (cR_5, 8, .inr (.inr (.inr (.inr fj_6))))), (hj_7, .inr (7, [.int 0, .int 0, .int 0, .int 0])), (hpr_3, .inr (7, [.int 0, .int 0, .int 0, .int 0])), (q_10, .inl (cA_10, 6, .inr (.inr (.inr (.inr (fun _ => none))))))] := hD
  refine W.widen (k := 21) (n := 333) (Nat.le_of_ble_eq_true rfl) (Nat.le_of_ble_eq_true rfl) ?_
  refine va_putF (D := (dC, dI)) (ci := 12) (v := .ref q_10) (ty := .array (.object "VoussoirYard$BlockKind")) (C := RX7) (T := TX7) (N := 16) hx hb hts (fun _ h9 => List.mem_cons_of_mem _ (List.mem_append_right _ (List.mem_append_right _ (List.mem_append_right _ (List.mem_append_left _ h9))))) tyX7 tyX7_ok nmX7 hown hK hP hD hS 0 rfl rfl 2 (by decide) (hts _ (List.mem_cons_of_mem _ (List.mem_append_left _ (List.mem_of_getElem? (i := 15) rfl)))) (fun _ h9 => h9) rfl hin rfl (by decide +kernel) rfl rfl (Nat.le_of_ble_eq_true rfl) dX7_init_32 (fun H locs hP hD hS => ?_)
  have hP : va_P (dC, dI) vwCl [(h0, .inr (12, [.ref q_1, .ref q_9, .ref q_10, .null, .null, .null, .null, .null, .int 0, .int 0, .int 0, .int 0, .int 0, .int 0, .int 0, .long 0])), (q_1, .inr (6, [.ref hj_2, .ref hpr_3, .ref hqd_4, .int 0, .int 0, .int 1])), (hj_2, .inl (cR_5, 8, .inr (.inr (.inr (.inr fj_6))))), (hj_7, .inr (7, [.int 0, .int 0, .int 0, .int 0])), (hpr_3, .inr (7, [.int 0, .int 0, .int 0, .int 0])), (q_10, .inl (cA_10, 6, .inr (.inr (.inr (.inr (fun _ => none))))))] H := hP
  have hD : va_D A [(h0, .inr (12, [.ref q_1, .ref q_9, .ref q_10, .null, .null, .null, .null, .null, .int 0, .int 0, .int 0, .int 0, .int 0, .int 0, .int 0, .long 0])), (q_1, .inr (6, [.ref hj_2, .ref hpr_3, .ref hqd_4, .int 0, .int 0, .int 1])), (hj_2, .inl (cR_5, 8, .inr (.inr (.inr (.inr fj_6))))), (hj_7, .inr (7, [.int 0, .int 0, .int 0, .int 0])), (hpr_3, .inr (7, [.int 0, .int 0, .int 0, .int 0])), (q_10, .inl (cA_10, 6, .inr (.inr (.inr (.inr (fun _ => none))))))] := hD
  refine lv_aload_n hx hb dX7_init_35 rfl (lv_at hl 0 rfl) ?_
  refine lv_iconst (v := 4) hx hb dX7_init_36 (by decide) ?_
  refine va_newq (C := RX3) (N' := 4) hx hb hown (hts _ (List.mem_cons_of_mem _ (List.mem_append_left _ (List.mem_of_getElem? (i := 16) rfl)))) hAm.1.2.2.2.2.1.2.2.1 hK hP hD hS hA (by decide) (by decide) (by decide) (Nat.le_of_ble_eq_true rfl) (Nat.le_of_ble_eq_true rfl) dX7_init_37 (fun q_11 cA_11 H hK hP hD hS => ?_)
  have hK : va_K (dC, dI) vwCl [(cR_5, .object RX2), (cA_10, .object RX0), (cA_11, .object RX3)] s := hK
  have hP : va_P (dC, dI) vwCl [(h0, .inr (12, [.ref q_1, .ref q_9, .ref q_10, .null, .null, .null, .null, .null, .int 0, .int 0, .int 0, .int 0, .int 0, .int 0, .int 0, .long 0])), (q_1, .inr (6, [.ref hj_2, .ref hpr_3, .ref hqd_4, .int 0, .int 0, .int 1])), (hj_2, .inl (cR_5, 8, .inr (.inr (.inr (.inr fj_6))))), (hj_7, .inr (7, [.int 0, .int 0, .int 0, .int 0])), (hpr_3, .inr (7, [.int 0, .int 0, .int 0, .int 0])), (q_10, .inl (cA_10, 6, .inr (.inr (.inr (.inr (fun _ => none)))))), (q_11, .inl (cA_11, 4, .inr (.inr (.inr (.inr (fun _ => none))))))] H := hP
  have hD : va_D A [(h0, .inr (12, [.ref q_1, .ref q_9, .ref q_10, .null, .null, .null, .null, .null, .int 0, .int 0, .int 0, .int 0, .int 0, .int 0, .int 0, .long 0])), (q_1, .inr (6, [.ref hj_2, .ref hpr_3, .ref hqd_4, .int 0, .int 0, .int 1])), (hj_2, .inl (cR_5, 8, .inr (.inr (.inr (.inr fj_6))))), (hj_7, .inr (7, [.int 0, .int 0, .int 0, .int 0])), (hpr_3, .inr (7, [.int 0, .int 0, .int 0, .int 0])), (q_10, .inl (cA_10, 6, .inr (.inr (.inr (.inr (fun _ => none)))))), (q_11, .inl (cA_11, 4, .inr (.inr (.inr (.inr (fun _ => none))))))] := hD
  refine W.widen (k := 22) (n := 337) (Nat.le_of_ble_eq_true rfl) (Nat.le_of_ble_eq_true rfl) ?_
  refine va_putF (D := (dC, dI)) (ci := 12) (v := .ref q_11) (ty := .array (.object "VoussoirYard$Mason")) (C := RX7) (T := TX7) (N := 16) hx hb hts (fun _ h9 => List.mem_cons_of_mem _ (List.mem_append_right _ (List.mem_append_right _ (List.mem_append_right _ (List.mem_append_left _ h9))))) tyX7 tyX7_ok nmX7 hown hK hP hD hS 0 rfl rfl 3 (by decide) (hts _ (List.mem_cons_of_mem _ (List.mem_append_left _ (List.mem_of_getElem? (i := 17) rfl)))) (fun _ h9 => h9) rfl hin rfl (by decide +kernel) rfl rfl (Nat.le_of_ble_eq_true rfl) dX7_init_40 (fun H locs hP hD hS => ?_)
  have hP : va_P (dC, dI) vwCl [(h0, .inr (12, [.ref q_1, .ref q_9, .ref q_10, .ref q_11, .null, .null, .null, .null, .int 0, .int 0, .int 0, .int 0, .int 0, .int 0, .int 0, .long 0])), (q_1, .inr (6, [.ref hj_2, .ref hpr_3, .ref hqd_4, .int 0, .int 0, .int 1])), (hj_2, .inl (cR_5, 8, .inr (.inr (.inr (.inr fj_6))))), (hj_7, .inr (7, [.int 0, .int 0, .int 0, .int 0])), (hpr_3, .inr (7, [.int 0, .int 0, .int 0, .int 0])), (q_10, .inl (cA_10, 6, .inr (.inr (.inr (.inr (fun _ => none)))))), (q_11, .inl (cA_11, 4, .inr (.inr (.inr (.inr (fun _ => none))))))] H := hP
  have hD : va_D A [(h0, .inr (12, [.ref q_1, .ref q_9, .ref q_10, .ref q_11, .null, .null, .null, .null, .int 0, .int 0, .int 0, .int 0, .int 0, .int 0, .int 0, .long 0])), (q_1, .inr (6, [.ref hj_2, .ref hpr_3, .ref hqd_4, .int 0, .int 0, .int 1])), (hj_2, .inl (cR_5, 8, .inr (.inr (.inr (.inr fj_6))))), (hj_7, .inr (7, [.int 0, .int 0, .int 0, .int 0])), (hpr_3, .inr (7, [.int 0, .int 0, .int 0, .int 0])), (q_10, .inl (cA_10, 6, .inr (.inr (.inr (.inr (fun _ => none)))))), (q_11, .inl (cA_11, 4, .inr (.inr (.inr (.inr (fun _ => none))))))] := hD
  refine lv_aload_n hx hb dX7_init_43 rfl (lv_at hl 0 rfl) ?_
  refine lv_bipush (v := 40) hx hb dX7_init_44 (by decide) ?_
  refine va_newq (C := RX5) (N' := 40) hx hb hown (hts _ (List.mem_cons_of_mem _ (List.mem_append_left _ (List.mem_of_getElem? (i := 18) rfl)))) hAm.1.2.2.2.2.1.2.2.2.1 hK hP hD hS hA (by decide) (by decide) (by decide) (Nat.le_of_ble_eq_true rfl) (Nat.le_of_ble_eq_true rfl) dX7_init_46 (fun q_12 cA_12 H hK hP hD hS => ?_)
  have hK : va_K (dC, dI) vwCl [(cR_5, .object RX2), (cA_10, .object RX0), (cA_11, .object RX3), (cA_12, .object RX5)] s := hK
  have hP : va_P (dC, dI) vwCl [(h0, .inr (12, [.ref q_1, .ref q_9, .ref q_10, .ref q_11, .null, .null, .null, .null, .int 0, .int 0, .int 0, .int 0, .int 0, .int 0, .int 0, .long 0])), (q_1, .inr (6, [.ref hj_2, .ref hpr_3, .ref hqd_4, .int 0, .int 0, .int 1])), (hj_2, .inl (cR_5, 8, .inr (.inr (.inr (.inr fj_6))))), (hj_7, .inr (7, [.int 0, .int 0, .int 0, .int 0])), (hpr_3, .inr (7, [.int 0, .int 0, .int 0, .int 0])), (q_10, .inl (cA_10, 6, .inr (.inr (.inr (.inr (fun _ => none)))))), (q_11, .inl (cA_11, 4, .inr (.inr (.inr (.inr (fun _ => none)))))), (q_12, .inl (cA_12, 40, .inr (.inr (.inr (.inr (fun _ => none))))))] H := hP
  have hD : va_D A [(h0, .inr (12, [.ref q_1, .ref q_9, .ref q_10, .ref q_11, .null, .null, .null, .null, .int 0, .int 0, .int 0, .int 0, .int 0, .int 0, .int 0, .long 0])), (q_1, .inr (6, [.ref hj_2, .ref hpr_3, .ref hqd_4, .int 0, .int 0, .int 1])), (hj_2, .inl (cR_5, 8, .inr (.inr (.inr (.inr fj_6))))), (hj_7, .inr (7, [.int 0, .int 0, .int 0, .int 0])), (hpr_3, .inr (7, [.int 0, .int 0, .int 0, .int 0])), (q_10, .inl (cA_10, 6, .inr (.inr (.inr (.inr (fun _ => none)))))), (q_11, .inl (cA_11, 4, .inr (.inr (.inr (.inr (fun _ => none)))))), (q_12, .inl (cA_12, 40, .inr (.inr (.inr (.inr (fun _ => none))))))] := hD
  refine W.widen (k := 23) (n := 377) (Nat.le_of_ble_eq_true rfl) (Nat.le_of_ble_eq_true rfl) ?_
  refine va_putF (D := (dC, dI)) (ci := 12) (v := .ref q_12) (ty := .array (.object "VoussoirYard$Stone")) (C := RX7) (T := TX7) (N := 16) hx hb hts (fun _ h9 => List.mem_cons_of_mem _ (List.mem_append_right _ (List.mem_append_right _ (List.mem_append_right _ (List.mem_append_left _ h9))))) tyX7 tyX7_ok nmX7 hown hK hP hD hS 0 rfl rfl 4 (by decide) (hts _ (List.mem_cons_of_mem _ (List.mem_append_left _ (List.mem_of_getElem? (i := 19) rfl)))) (fun _ h9 => h9) rfl hin rfl (by decide +kernel) rfl rfl (Nat.le_of_ble_eq_true rfl) dX7_init_49 (fun H locs hP hD hS => ?_)
  have hP : va_P (dC, dI) vwCl [(h0, .inr (12, [.ref q_1, .ref q_9, .ref q_10, .ref q_11, .ref q_12, .null, .null, .null, .int 0, .int 0, .int 0, .int 0, .int 0, .int 0, .int 0, .long 0])), (q_1, .inr (6, [.ref hj_2, .ref hpr_3, .ref hqd_4, .int 0, .int 0, .int 1])), (hj_2, .inl (cR_5, 8, .inr (.inr (.inr (.inr fj_6))))), (hj_7, .inr (7, [.int 0, .int 0, .int 0, .int 0])), (hpr_3, .inr (7, [.int 0, .int 0, .int 0, .int 0])), (q_10, .inl (cA_10, 6, .inr (.inr (.inr (.inr (fun _ => none)))))), (q_11, .inl (cA_11, 4, .inr (.inr (.inr (.inr (fun _ => none)))))), (q_12, .inl (cA_12, 40, .inr (.inr (.inr (.inr (fun _ => none))))))] H := hP
  have hD : va_D A [(h0, .inr (12, [.ref q_1, .ref q_9, .ref q_10, .ref q_11, .ref q_12, .null, .null, .null, .int 0, .int 0, .int 0, .int 0, .int 0, .int 0, .int 0, .long 0])), (q_1, .inr (6, [.ref hj_2, .ref hpr_3, .ref hqd_4, .int 0, .int 0, .int 1])), (hj_2, .inl (cR_5, 8, .inr (.inr (.inr (.inr fj_6))))), (hj_7, .inr (7, [.int 0, .int 0, .int 0, .int 0])), (hpr_3, .inr (7, [.int 0, .int 0, .int 0, .int 0])), (q_10, .inl (cA_10, 6, .inr (.inr (.inr (.inr (fun _ => none)))))), (q_11, .inl (cA_11, 4, .inr (.inr (.inr (.inr (fun _ => none)))))), (q_12, .inl (cA_12, 40, .inr (.inr (.inr (.inr (fun _ => none))))))] := hD
  refine lv_aload_n hx hb dX7_init_52 rfl (lv_at hl 0 rfl) ?_
  refine lv_bipush (v := 8) hx hb dX7_init_53 (by decide) ?_
  refine va_newa (atype := .int) (ty := .int) (a0 := (8, .inl (fun _ => 0))) (N' := 8) hx hb (hts _ (List.mem_cons_of_mem _ (List.mem_append_left _ (List.mem_of_getElem? (i := 20) rfl)))) rfl hK hP hD hS hA (fun _ => rfl) (by decide) (by decide) (by decide) (Nat.le_of_ble_eq_true rfl) (Nat.le_of_ble_eq_true rfl) dX7_init_55 (fun q_13 cA_13 H hK hP hD hS => ?_)
  have hK : va_K (dC, dI) vwCl [(cR_5, .object RX2), (cA_10, .object RX0), (cA_11, .object RX3), (cA_12, .object RX5), (cA_13, .int)] s := hK
  have hP : va_P (dC, dI) vwCl [(h0, .inr (12, [.ref q_1, .ref q_9, .ref q_10, .ref q_11, .ref q_12, .null, .null, .null, .int 0, .int 0, .int 0, .int 0, .int 0, .int 0, .int 0, .long 0])), (q_1, .inr (6, [.ref hj_2, .ref hpr_3, .ref hqd_4, .int 0, .int 0, .int 1])), (hj_2, .inl (cR_5, 8, .inr (.inr (.inr (.inr fj_6))))), (hj_7, .inr (7, [.int 0, .int 0, .int 0, .int 0])), (hpr_3, .inr (7, [.int 0, .int 0, .int 0, .int 0])), (q_10, .inl (cA_10, 6, .inr (.inr (.inr (.inr (fun _ => none)))))), (q_11, .inl (cA_11, 4, .inr (.inr (.inr (.inr (fun _ => none)))))), (q_12, .inl (cA_12, 40, .inr (.inr (.inr (.inr (fun _ => none)))))), (q_13, .inl (cA_13, 8, .inl (fun _ => 0)))] H := hP
  have hD : va_D A [(h0, .inr (12, [.ref q_1, .ref q_9, .ref q_10, .ref q_11, .ref q_12, .null, .null, .null, .int 0, .int 0, .int 0, .int 0, .int 0, .int 0, .int 0, .long 0])), (q_1, .inr (6, [.ref hj_2, .ref hpr_3, .ref hqd_4, .int 0, .int 0, .int 1])), (hj_2, .inl (cR_5, 8, .inr (.inr (.inr (.inr fj_6))))), (hj_7, .inr (7, [.int 0, .int 0, .int 0, .int 0])), (hpr_3, .inr (7, [.int 0, .int 0, .int 0, .int 0])), (q_10, .inl (cA_10, 6, .inr (.inr (.inr (.inr (fun _ => none)))))), (q_11, .inl (cA_11, 4, .inr (.inr (.inr (.inr (fun _ => none)))))), (q_12, .inl (cA_12, 40, .inr (.inr (.inr (.inr (fun _ => none)))))), (q_13, .inl (cA_13, 8, .inl (fun _ => 0)))] := hD
  refine W.widen (k := 24) (n := 385) (Nat.le_of_ble_eq_true rfl) (Nat.le_of_ble_eq_true rfl) ?_
  refine va_putF (D := (dC, dI)) (ci := 12) (v := .ref q_13) (ty := .array .int) (C := RX7) (T := TX7) (N := 16) hx hb hts (fun _ h9 => List.mem_cons_of_mem _ (List.mem_append_right _ (List.mem_append_right _ (List.mem_append_right _ (List.mem_append_left _ h9))))) tyX7 tyX7_ok nmX7 hown hK hP hD hS 0 rfl rfl 5 (by decide) (hts _ (List.mem_cons_of_mem _ (List.mem_append_left _ (List.mem_of_getElem? (i := 21) rfl)))) (fun _ h9 => h9) rfl hin rfl (by decide +kernel) rfl rfl (Nat.le_of_ble_eq_true rfl) dX7_init_57 (fun H locs hP hD hS => ?_)
  have hP : va_P (dC, dI) vwCl [(h0, .inr (12, [.ref q_1, .ref q_9, .ref q_10, .ref q_11, .ref q_12, .ref q_13, .null, .null, .int 0, .int 0, .int 0, .int 0, .int 0, .int 0, .int 0, .long 0])), (q_1, .inr (6, [.ref hj_2, .ref hpr_3, .ref hqd_4, .int 0, .int 0, .int 1])), (hj_2, .inl (cR_5, 8, .inr (.inr (.inr (.inr fj_6))))), (hj_7, .inr (7, [.int 0, .int 0, .int 0, .int 0])), (hpr_3, .inr (7, [.int 0, .int 0, .int 0, .int 0])), (q_10, .inl (cA_10, 6, .inr (.inr (.inr (.inr (fun _ => none)))))), (q_11, .inl (cA_11, 4, .inr (.inr (.inr (.inr (fun _ => none)))))), (q_12, .inl (cA_12, 40, .inr (.inr (.inr (.inr (fun _ => none)))))), (q_13, .inl (cA_13, 8, .inl (fun _ => 0)))] H := hP
  have hD : va_D A [(h0, .inr (12, [.ref q_1, .ref q_9, .ref q_10, .ref q_11, .ref q_12, .ref q_13, .null, .null, .int 0, .int 0, .int 0, .int 0, .int 0, .int 0, .int 0, .long 0])), (q_1, .inr (6, [.ref hj_2, .ref hpr_3, .ref hqd_4, .int 0, .int 0, .int 1])), (hj_2, .inl (cR_5, 8, .inr (.inr (.inr (.inr fj_6))))), (hj_7, .inr (7, [.int 0, .int 0, .int 0, .int 0])), (hpr_3, .inr (7, [.int 0, .int 0, .int 0, .int 0])), (q_10, .inl (cA_10, 6, .inr (.inr (.inr (.inr (fun _ => none)))))), (q_11, .inl (cA_11, 4, .inr (.inr (.inr (.inr (fun _ => none)))))), (q_12, .inl (cA_12, 40, .inr (.inr (.inr (.inr (fun _ => none)))))), (q_13, .inl (cA_13, 8, .inl (fun _ => 0)))] := hD
  refine lv_aload_n hx hb dX7_init_60 rfl (lv_at hl 0 rfl) ?_
  refine lv_bipush (v := 8) hx hb dX7_init_61 (by decide) ?_
  refine va_newa (atype := .int) (ty := .int) (a0 := (8, .inl (fun _ => 0))) (N' := 8) hx hb (hts _ (List.mem_cons_of_mem _ (List.mem_append_left _ (List.mem_of_getElem? (i := 20) rfl)))) rfl hK hP hD hS hA (fun _ => rfl) (by decide) (by decide) (by decide) (Nat.le_of_ble_eq_true rfl) (Nat.le_of_ble_eq_true rfl) dX7_init_63 (fun q_14 cA_14 H hK hP hD hS => ?_)
  have hK : va_K (dC, dI) vwCl [(cR_5, .object RX2), (cA_10, .object RX0), (cA_11, .object RX3), (cA_12, .object RX5), (cA_13, .int), (cA_14, .int)] s := hK
  have hP : va_P (dC, dI) vwCl [(h0, .inr (12, [.ref q_1, .ref q_9, .ref q_10, .ref q_11, .ref q_12, .ref q_13, .null, .null, .int 0, .int 0, .int 0, .int 0, .int 0, .int 0, .int 0, .long 0])), (q_1, .inr (6, [.ref hj_2, .ref hpr_3, .ref hqd_4, .int 0, .int 0, .int 1])), (hj_2, .inl (cR_5, 8, .inr (.inr (.inr (.inr fj_6))))), (hj_7, .inr (7, [.int 0, .int 0, .int 0, .int 0])), (hpr_3, .inr (7, [.int 0, .int 0, .int 0, .int 0])), (q_10, .inl (cA_10, 6, .inr (.inr (.inr (.inr (fun _ => none)))))), (q_11, .inl (cA_11, 4, .inr (.inr (.inr (.inr (fun _ => none)))))), (q_12, .inl (cA_12, 40, .inr (.inr (.inr (.inr (fun _ => none)))))), (q_13, .inl (cA_13, 8, .inl (fun _ => 0))), (q_14, .inl (cA_14, 8, .inl (fun _ => 0)))] H := hP
  have hD : va_D A [(h0, .inr (12, [.ref q_1, .ref q_9, .ref q_10, .ref q_11, .ref q_12, .ref q_13, .null, .null, .int 0, .int 0, .int 0, .int 0, .int 0, .int 0, .int 0, .long 0])), (q_1, .inr (6, [.ref hj_2, .ref hpr_3, .ref hqd_4, .int 0, .int 0, .int 1])), (hj_2, .inl (cR_5, 8, .inr (.inr (.inr (.inr fj_6))))), (hj_7, .inr (7, [.int 0, .int 0, .int 0, .int 0])), (hpr_3, .inr (7, [.int 0, .int 0, .int 0, .int 0])), (q_10, .inl (cA_10, 6, .inr (.inr (.inr (.inr (fun _ => none)))))), (q_11, .inl (cA_11, 4, .inr (.inr (.inr (.inr (fun _ => none)))))), (q_12, .inl (cA_12, 40, .inr (.inr (.inr (.inr (fun _ => none)))))), (q_13, .inl (cA_13, 8, .inl (fun _ => 0))), (q_14, .inl (cA_14, 8, .inl (fun _ => 0)))] := hD
  refine W.widen (k := 25) (n := 393) (Nat.le_of_ble_eq_true rfl) (Nat.le_of_ble_eq_true rfl) ?_
  refine va_putF (D := (dC, dI)) (ci := 12) (v := .ref q_14) (ty := .array .int) (C := RX7) (T := TX7) (N := 16) hx hb hts (fun _ h9 => List.mem_cons_of_mem _ (List.mem_append_right _ (List.mem_append_right _ (List.mem_append_right _ (List.mem_append_left _ h9))))) tyX7 tyX7_ok nmX7 hown hK hP hD hS 0 rfl rfl 6 (by decide) (hts _ (List.mem_cons_of_mem _ (List.mem_append_left _ (List.mem_of_getElem? (i := 22) rfl)))) (fun _ h9 => h9) rfl hin rfl (by decide +kernel) rfl rfl (Nat.le_of_ble_eq_true rfl) dX7_init_65 (fun H locs hP hD hS => ?_)
  have hP : va_P (dC, dI) vwCl [(h0, .inr (12, [.ref q_1, .ref q_9, .ref q_10, .ref q_11, .ref q_12, .ref q_13, .ref q_14, .null, .int 0, .int 0, .int 0, .int 0, .int 0, .int 0, .int 0, .long 0])), (q_1, .inr (6, [.ref hj_2, .ref hpr_3, .ref hqd_4, .int 0, .int 0, .int 1])), (hj_2, .inl (cR_5, 8, .inr (.inr (.inr (.inr fj_6))))), (hj_7, .inr (7, [.int 0, .int 0, .int 0, .int 0])), (hpr_3, .inr (7, [.int 0, .int 0, .int 0, .int 0])), (q_10, .inl (cA_10, 6, .inr (.inr (.inr (.inr (fun _ => none)))))), (q_11, .inl (cA_11, 4, .inr (.inr (.inr (.inr (fun _ => none)))))), (q_12, .inl (cA_12, 40, .inr (.inr (.inr (.inr (fun _ => none)))))), (q_13, .inl (cA_13, 8, .inl (fun _ => 0))), (q_14, .inl (cA_14, 8, .inl (fun _ => 0)))] H := hP
  have hD : va_D A [(h0, .inr (12, [.ref q_1, .ref q_9, .ref q_10, .ref q_11, .ref q_12, .ref q_13, .ref q_14, .null, .int 0, .int 0, .int 0, .int 0, .int 0, .int 0, .int 0, .long 0])), (q_1, .inr (6, [.ref hj_2, .ref hpr_3, .ref hqd_4, .int 0, .int 0, .int 1])), (hj_2, .inl (cR_5, 8, .inr (.inr (.inr (.inr fj_6))))), (hj_7, .inr (7, [.int 0, .int 0, .int 0, .int 0])), (hpr_3, .inr (7, [.int 0, .int 0, .int 0, .int 0])), (q_10, .inl (cA_10, 6, .inr (.inr (.inr (.inr (fun _ => none)))))), (q_11, .inl (cA_11, 4, .inr (.inr (.inr (.inr (fun _ => none)))))), (q_12, .inl (cA_12, 40, .inr (.inr (.inr (.inr (fun _ => none)))))), (q_13, .inl (cA_13, 8, .inl (fun _ => 0))), (q_14, .inl (cA_14, 8, .inl (fun _ => 0)))] := hD
  refine lv_aload_n hx hb dX7_init_68 rfl (lv_at hl 0 rfl) ?_
  refine lv_bipush (v := 8) hx hb dX7_init_69 (by decide) ?_
  refine va_newa (atype := .int) (ty := .int) (a0 := (8, .inl (fun _ => 0))) (N' := 8) hx hb (hts _ (List.mem_cons_of_mem _ (List.mem_append_left _ (List.mem_of_getElem? (i := 20) rfl)))) rfl hK hP hD hS hA (fun _ => rfl) (by decide) (by decide) (by decide) (Nat.le_of_ble_eq_true rfl) (Nat.le_of_ble_eq_true rfl) dX7_init_71 (fun q_15 cA_15 H hK hP hD hS => ?_)
  have hK : va_K (dC, dI) vwCl [(cR_5, .object RX2), (cA_10, .object RX0), (cA_11, .object RX3), (cA_12, .object RX5), (cA_13, .int), (cA_14, .int), (cA_15, .int)] s := hK
  have hP : va_P (dC, dI) vwCl [(h0, .inr (12, [.ref q_1, .ref q_9, .ref q_10, .ref q_11, .ref q_12, .ref q_13, .ref q_14, .null, .int 0, .int 0, .int 0, .int 0, .int 0, .int 0, .int 0, .long 0])), (q_1, .inr (6, [.ref hj_2, .ref hpr_3, .ref hqd_4, .int 0, .int 0, .int 1])), (hj_2, .inl (cR_5, 8, .inr (.inr (.inr (.inr fj_6))))), (hj_7, .inr (7, [.int 0, .int 0, .int 0, .int 0])), (hpr_3, .inr (7, [.int 0, .int 0, .int 0, .int 0])), (q_10, .inl (cA_10, 6, .inr (.inr (.inr (.inr (fun _ => none)))))), (q_11, .inl (cA_11, 4, .inr (.inr (.inr (.inr (fun _ => none)))))), (q_12, .inl (cA_12, 40, .inr (.inr (.inr (.inr (fun _ => none)))))), (q_13, .inl (cA_13, 8, .inl (fun _ => 0))), (q_14, .inl (cA_14, 8, .inl (fun _ => 0))), (q_15, .inl (cA_15, 8, .inl (fun _ => 0)))] H := hP
  have hD : va_D A [(h0, .inr (12, [.ref q_1, .ref q_9, .ref q_10, .ref q_11, .ref q_12, .ref q_13, .ref q_14, .null, .int 0, .int 0, .int 0, .int 0, .int 0, .int 0, .int 0, .long 0])), (q_1, .inr (6, [.ref hj_2, .ref hpr_3, .ref hqd_4, .int 0, .int 0, .int 1])), (hj_2, .inl (cR_5, 8, .inr (.inr (.inr (.inr fj_6))))), (hj_7, .inr (7, [.int 0, .int 0, .int 0, .int 0])), (hpr_3, .inr (7, [.int 0, .int 0, .int 0, .int 0])), (q_10, .inl (cA_10, 6, .inr (.inr (.inr (.inr (fun _ => none)))))), (q_11, .inl (cA_11, 4, .inr (.inr (.inr (.inr (fun _ => none)))))), (q_12, .inl (cA_12, 40, .inr (.inr (.inr (.inr (fun _ => none)))))), (q_13, .inl (cA_13, 8, .inl (fun _ => 0))), (q_14, .inl (cA_14, 8, .inl (fun _ => 0))), (q_15, .inl (cA_15, 8, .inl (fun _ => 0)))] := hD
  refine W.widen (k := 26) (n := 401) (Nat.le_of_ble_eq_true rfl) (Nat.le_of_ble_eq_true rfl) ?_
  refine va_putF (D := (dC, dI)) (ci := 12) (v := .ref q_15) (ty := .array .int) (C := RX7) (T := TX7) (N := 16) hx hb hts (fun _ h9 => List.mem_cons_of_mem _ (List.mem_append_right _ (List.mem_append_right _ (List.mem_append_right _ (List.mem_append_left _ h9))))) tyX7 tyX7_ok nmX7 hown hK hP hD hS 0 rfl rfl 7 (by decide) (hts _ (List.mem_cons_of_mem _ (List.mem_append_left _ (List.mem_of_getElem? (i := 23) rfl)))) (fun _ h9 => h9) rfl hin rfl (by decide +kernel) rfl rfl (Nat.le_of_ble_eq_true rfl) dX7_init_73 (fun H locs hP hD hS => ?_)
  have hP : va_P (dC, dI) vwCl [(h0, .inr (12, [.ref q_1, .ref q_9, .ref q_10, .ref q_11, .ref q_12, .ref q_13, .ref q_14, .ref q_15, .int 0, .int 0, .int 0, .int 0, .int 0, .int 0, .int 0, .long 0])), (q_1, .inr (6, [.ref hj_2, .ref hpr_3, .ref hqd_4, .int 0, .int 0, .int 1])), (hj_2, .inl (cR_5, 8, .inr (.inr (.inr (.inr fj_6))))), (hj_7, .inr (7, [.int 0, .int 0, .int 0, .int 0])), (hpr_3, .inr (7, [.int 0, .int 0, .int 0, .int 0])), (q_10, .inl (cA_10, 6, .inr (.inr (.inr (.inr (fun _ => none)))))), (q_11, .inl (cA_11, 4, .inr (.inr (.inr (.inr (fun _ => none)))))), (q_12, .inl (cA_12, 40, .inr (.inr (.inr (.inr (fun _ => none)))))), (q_13, .inl (cA_13, 8, .inl (fun _ => 0))), (q_14, .inl (cA_14, 8, .inl (fun _ => 0))), (q_15, .inl (cA_15, 8, .inl (fun _ => 0)))] H := hP
  have hD : va_D A [(h0, .inr (12, [.ref q_1, .ref q_9, .ref q_10, .ref q_11, .ref q_12, .ref q_13, .ref q_14, .ref q_15, .int 0, .int 0, .int 0, .int 0, .int 0, .int 0, .int 0, .long 0])), (q_1, .inr (6, [.ref hj_2, .ref hpr_3, .ref hqd_4, .int 0, .int 0, .int 1])), (hj_2, .inl (cR_5, 8, .inr (.inr (.inr (.inr fj_6))))), (hj_7, .inr (7, [.int 0, .int 0, .int 0, .int 0])), (hpr_3, .inr (7, [.int 0, .int 0, .int 0, .int 0])), (q_10, .inl (cA_10, 6, .inr (.inr (.inr (.inr (fun _ => none)))))), (q_11, .inl (cA_11, 4, .inr (.inr (.inr (.inr (fun _ => none)))))), (q_12, .inl (cA_12, 40, .inr (.inr (.inr (.inr (fun _ => none)))))), (q_13, .inl (cA_13, 8, .inl (fun _ => 0))), (q_14, .inl (cA_14, 8, .inl (fun _ => 0))), (q_15, .inl (cA_15, 8, .inl (fun _ => 0)))] := hD
  refine lv_aload_n hx hb dX7_init_76 rfl (lv_at hl 0 rfl) ?_
  refine lv_iconst (v := 0) hx hb dX7_init_77 (by decide) ?_
  refine va_put (D := (dC, dI)) (ci := 12) (v := .int 0) (ty := .int) (C := RX7) (T := TX7) (N := 16) hx hb hts (fun _ h9 => List.mem_cons_of_mem _ (List.mem_append_right _ (List.mem_append_right _ (List.mem_append_right _ (List.mem_append_left _ h9))))) tyX7 tyX7_ok nmX7 hown hK hP hD hS 0 rfl rfl 8 (by decide) (hts _ (List.mem_cons_of_mem _ (List.mem_append_left _ (List.mem_of_getElem? (i := 24) rfl)))) (fun _ h9 => h9) rfl (by decide +kernel) rfl rfl (Nat.le_of_ble_eq_true rfl) dX7_init_78 (fun H locs hP hD hS => ?_)
  have hP : va_P (dC, dI) vwCl [(h0, .inr (12, [.ref q_1, .ref q_9, .ref q_10, .ref q_11, .ref q_12, .ref q_13, .ref q_14, .ref q_15, .int 0, .int 0, .int 0, .int 0, .int 0, .int 0, .int 0, .long 0])), (q_1, .inr (6, [.ref hj_2, .ref hpr_3, .ref hqd_4, .int 0, .int 0, .int 1])), (hj_2, .inl (cR_5, 8, .inr (.inr (.inr (.inr fj_6))))), (hj_7, .inr (7, [.int 0, .int 0, .int 0, .int 0])), (hpr_3, .inr (7, [.int 0, .int 0, .int 0, .int 0])), (q_10, .inl (cA_10, 6, .inr (.inr (.inr (.inr (fun _ => none)))))), (q_11, .inl (cA_11, 4, .inr (.inr (.inr (.inr (fun _ => none)))))), (q_12, .inl (cA_12, 40, .inr (.inr (.inr (.inr (fun _ => none)))))), (q_13, .inl (cA_13, 8, .inl (fun _ => 0))), (q_14, .inl (cA_14, 8, .inl (fun _ => 0))), (q_15, .inl (cA_15, 8, .inl (fun _ => 0)))] H := hP
  have hD : va_D A [(h0, .inr (12, [.ref q_1, .ref q_9, .ref q_10, .ref q_11, .ref q_12, .ref q_13, .ref q_14, .ref q_15, .int 0, .int 0, .int 0, .int 0, .int 0, .int 0, .int 0, .long 0])), (q_1, .inr (6, [.ref hj_2, .ref hpr_3, .ref hqd_4, .int 0, .int 0, .int 1])), (hj_2, .inl (cR_5, 8, .inr (.inr (.inr (.inr fj_6))))), (hj_7, .inr (7, [.int 0, .int 0, .int 0, .int 0])), (hpr_3, .inr (7, [.int 0, .int 0, .int 0, .int 0])), (q_10, .inl (cA_10, 6, .inr (.inr (.inr (.inr (fun _ => none)))))), (q_11, .inl (cA_11, 4, .inr (.inr (.inr (.inr (fun _ => none)))))), (q_12, .inl (cA_12, 40, .inr (.inr (.inr (.inr (fun _ => none)))))), (q_13, .inl (cA_13, 8, .inl (fun _ => 0))), (q_14, .inl (cA_14, 8, .inl (fun _ => 0))), (q_15, .inl (cA_15, 8, .inl (fun _ => 0)))] := hD
  refine lv_aload_n hx hb dX7_init_81 rfl (lv_at hl 0 rfl) ?_
  refine lv_iconst (v := 0) hx hb dX7_init_82 (by decide) ?_
  refine va_put (D := (dC, dI)) (ci := 12) (v := .int 0) (ty := .int) (C := RX7) (T := TX7) (N := 16) hx hb hts (fun _ h9 => List.mem_cons_of_mem _ (List.mem_append_right _ (List.mem_append_right _ (List.mem_append_right _ (List.mem_append_left _ h9))))) tyX7 tyX7_ok nmX7 hown hK hP hD hS 0 rfl rfl 9 (by decide) (hts _ (List.mem_cons_of_mem _ (List.mem_append_left _ (List.mem_of_getElem? (i := 25) rfl)))) (fun _ h9 => h9) rfl (by decide +kernel) rfl rfl (Nat.le_of_ble_eq_true rfl) dX7_init_83 (fun H locs hP hD hS => ?_)
  have hP : va_P (dC, dI) vwCl [(h0, .inr (12, [.ref q_1, .ref q_9, .ref q_10, .ref q_11, .ref q_12, .ref q_13, .ref q_14, .ref q_15, .int 0, .int 0, .int 0, .int 0, .int 0, .int 0, .int 0, .long 0])), (q_1, .inr (6, [.ref hj_2, .ref hpr_3, .ref hqd_4, .int 0, .int 0, .int 1])), (hj_2, .inl (cR_5, 8, .inr (.inr (.inr (.inr fj_6))))), (hj_7, .inr (7, [.int 0, .int 0, .int 0, .int 0])), (hpr_3, .inr (7, [.int 0, .int 0, .int 0, .int 0])), (q_10, .inl (cA_10, 6, .inr (.inr (.inr (.inr (fun _ => none)))))), (q_11, .inl (cA_11, 4, .inr (.inr (.inr (.inr (fun _ => none)))))), (q_12, .inl (cA_12, 40, .inr (.inr (.inr (.inr (fun _ => none)))))), (q_13, .inl (cA_13, 8, .inl (fun _ => 0))), (q_14, .inl (cA_14, 8, .inl (fun _ => 0))), (q_15, .inl (cA_15, 8, .inl (fun _ => 0)))] H := hP
  have hD : va_D A [(h0, .inr (12, [.ref q_1, .ref q_9, .ref q_10, .ref q_11, .ref q_12, .ref q_13, .ref q_14, .ref q_15, .int 0, .int 0, .int 0, .int 0, .int 0, .int 0, .int 0, .long 0])), (q_1, .inr (6, [.ref hj_2, .ref hpr_3, .ref hqd_4, .int 0, .int 0, .int 1])), (hj_2, .inl (cR_5, 8, .inr (.inr (.inr (.inr fj_6))))), (hj_7, .inr (7, [.int 0, .int 0, .int 0, .int 0])), (hpr_3, .inr (7, [.int 0, .int 0, .int 0, .int 0])), (q_10, .inl (cA_10, 6, .inr (.inr (.inr (.inr (fun _ => none)))))), (q_11, .inl (cA_11, 4, .inr (.inr (.inr (.inr (fun _ => none)))))), (q_12, .inl (cA_12, 40, .inr (.inr (.inr (.inr (fun _ => none)))))), (q_13, .inl (cA_13, 8, .inl (fun _ => 0))), (q_14, .inl (cA_14, 8, .inl (fun _ => 0))), (q_15, .inl (cA_15, 8, .inl (fun _ => 0)))] := hD
  refine lv_aload_n hx hb dX7_init_86 rfl (lv_at hl 0 rfl) ?_
  refine lv_iconst (v := 0) hx hb dX7_init_87 (by decide) ?_
  refine va_put (D := (dC, dI)) (ci := 12) (v := .int 0) (ty := .int) (C := RX7) (T := TX7) (N := 16) hx hb hts (fun _ h9 => List.mem_cons_of_mem _ (List.mem_append_right _ (List.mem_append_right _ (List.mem_append_right _ (List.mem_append_left _ h9))))) tyX7 tyX7_ok nmX7 hown hK hP hD hS 0 rfl rfl 10 (by decide) (hts _ (List.mem_cons_of_mem _ (List.mem_append_left _ (List.mem_of_getElem? (i := 26) rfl)))) (fun _ h9 => h9) rfl (by decide +kernel) rfl rfl (Nat.le_of_ble_eq_true rfl) dX7_init_88 (fun H locs hP hD hS => ?_)
  have hP : va_P (dC, dI) vwCl [(h0, .inr (12, [.ref q_1, .ref q_9, .ref q_10, .ref q_11, .ref q_12, .ref q_13, .ref q_14, .ref q_15, .int 0, .int 0, .int 0, .int 0, .int 0, .int 0, .int 0, .long 0])), (q_1, .inr (6, [.ref hj_2, .ref hpr_3, .ref hqd_4, .int 0, .int 0, .int 1])), (hj_2, .inl (cR_5, 8, .inr (.inr (.inr (.inr fj_6))))), (hj_7, .inr (7, [.int 0, .int 0, .int 0, .int 0])), (hpr_3, .inr (7, [.int 0, .int 0, .int 0, .int 0])), (q_10, .inl (cA_10, 6, .inr (.inr (.inr (.inr (fun _ => none)))))), (q_11, .inl (cA_11, 4, .inr (.inr (.inr (.inr (fun _ => none)))))), (q_12, .inl (cA_12, 40, .inr (.inr (.inr (.inr (fun _ => none)))))), (q_13, .inl (cA_13, 8, .inl (fun _ => 0))), (q_14, .inl (cA_14, 8, .inl (fun _ => 0))), (q_15, .inl (cA_15, 8, .inl (fun _ => 0)))] H := hP
  have hD : va_D A [(h0, .inr (12, [.ref q_1, .ref q_9, .ref q_10, .ref q_11, .ref q_12, .ref q_13, .ref q_14, .ref q_15, .int 0, .int 0, .int 0, .int 0, .int 0, .int 0, .int 0, .long 0])), (q_1, .inr (6, [.ref hj_2, .ref hpr_3, .ref hqd_4, .int 0, .int 0, .int 1])), (hj_2, .inl (cR_5, 8, .inr (.inr (.inr (.inr fj_6))))), (hj_7, .inr (7, [.int 0, .int 0, .int 0, .int 0])), (hpr_3, .inr (7, [.int 0, .int 0, .int 0, .int 0])), (q_10, .inl (cA_10, 6, .inr (.inr (.inr (.inr (fun _ => none)))))), (q_11, .inl (cA_11, 4, .inr (.inr (.inr (.inr (fun _ => none)))))), (q_12, .inl (cA_12, 40, .inr (.inr (.inr (.inr (fun _ => none)))))), (q_13, .inl (cA_13, 8, .inl (fun _ => 0))), (q_14, .inl (cA_14, 8, .inl (fun _ => 0))), (q_15, .inl (cA_15, 8, .inl (fun _ => 0)))] := hD
  refine lv_aload_n hx hb dX7_init_91 rfl (lv_at hl 0 rfl) ?_
  refine lv_iconst (v := 0) hx hb dX7_init_92 (by decide) ?_
  refine va_put (D := (dC, dI)) (ci := 12) (v := .int 0) (ty := .int) (C := RX7) (T := TX7) (N := 16) hx hb hts (fun _ h9 => List.mem_cons_of_mem _ (List.mem_append_right _ (List.mem_append_right _ (List.mem_append_right _ (List.mem_append_left _ h9))))) tyX7 tyX7_ok nmX7 hown hK hP hD hS 0 rfl rfl 11 (by decide) (hts _ (List.mem_cons_of_mem _ (List.mem_append_left _ (List.mem_of_getElem? (i := 27) rfl)))) (fun _ h9 => h9) rfl (by decide +kernel) rfl rfl (Nat.le_of_ble_eq_true rfl) dX7_init_93 (fun H locs hP hD hS => ?_)
  have hP : va_P (dC, dI) vwCl [(h0, .inr (12, [.ref q_1, .ref q_9, .ref q_10, .ref q_11, .ref q_12, .ref q_13, .ref q_14, .ref q_15, .int 0, .int 0, .int 0, .int 0, .int 0, .int 0, .int 0, .long 0])), (q_1, .inr (6, [.ref hj_2, .ref hpr_3, .ref hqd_4, .int 0, .int 0, .int 1])), (hj_2, .inl (cR_5, 8, .inr (.inr (.inr (.inr fj_6))))), (hj_7, .inr (7, [.int 0, .int 0, .int 0, .int 0])), (hpr_3, .inr (7, [.int 0, .int 0, .int 0, .int 0])), (q_10, .inl (cA_10, 6, .inr (.inr (.inr (.inr (fun _ => none)))))), (q_11, .inl (cA_11, 4, .inr (.inr (.inr (.inr (fun _ => none)))))), (q_12, .inl (cA_12, 40, .inr (.inr (.inr (.inr (fun _ => none)))))), (q_13, .inl (cA_13, 8, .inl (fun _ => 0))), (q_14, .inl (cA_14, 8, .inl (fun _ => 0))), (q_15, .inl (cA_15, 8, .inl (fun _ => 0)))] H := hP
  have hD : va_D A [(h0, .inr (12, [.ref q_1, .ref q_9, .ref q_10, .ref q_11, .ref q_12, .ref q_13, .ref q_14, .ref q_15, .int 0, .int 0, .int 0, .int 0, .int 0, .int 0, .int 0, .long 0])), (q_1, .inr (6, [.ref hj_2, .ref hpr_3, .ref hqd_4, .int 0, .int 0, .int 1])), (hj_2, .inl (cR_5, 8, .inr (.inr (.inr (.inr fj_6))))), (hj_7, .inr (7, [.int 0, .int 0, .int 0, .int 0])), (hpr_3, .inr (7, [.int 0, .int 0, .int 0, .int 0])), (q_10, .inl (cA_10, 6, .inr (.inr (.inr (.inr (fun _ => none)))))), (q_11, .inl (cA_11, 4, .inr (.inr (.inr (.inr (fun _ => none)))))), (q_12, .inl (cA_12, 40, .inr (.inr (.inr (.inr (fun _ => none)))))), (q_13, .inl (cA_13, 8, .inl (fun _ => 0))), (q_14, .inl (cA_14, 8, .inl (fun _ => 0))), (q_15, .inl (cA_15, 8, .inl (fun _ => 0)))] := hD
  refine lv_aload_n hx hb dX7_init_96 rfl (lv_at hl 0 rfl) ?_
  refine lv_iconst (v := 0) hx hb dX7_init_97 (by decide) ?_
  refine va_put (D := (dC, dI)) (ci := 12) (v := .int 0) (ty := .boolean) (C := RX7) (T := TX7) (N := 16) hx hb hts (fun _ h9 => List.mem_cons_of_mem _ (List.mem_append_right _ (List.mem_append_right _ (List.mem_append_right _ (List.mem_append_left _ h9))))) tyX7 tyX7_ok nmX7 hown hK hP hD hS 0 rfl rfl 12 (by decide) (hts _ (List.mem_cons_of_mem _ (List.mem_append_left _ (List.mem_of_getElem? (i := 28) rfl)))) (fun _ h9 => h9) rfl (by decide +kernel) rfl rfl (Nat.le_of_ble_eq_true rfl) dX7_init_98 (fun H locs hP hD hS => ?_)
  have hP : va_P (dC, dI) vwCl [(h0, .inr (12, [.ref q_1, .ref q_9, .ref q_10, .ref q_11, .ref q_12, .ref q_13, .ref q_14, .ref q_15, .int 0, .int 0, .int 0, .int 0, .int 0, .int 0, .int 0, .long 0])), (q_1, .inr (6, [.ref hj_2, .ref hpr_3, .ref hqd_4, .int 0, .int 0, .int 1])), (hj_2, .inl (cR_5, 8, .inr (.inr (.inr (.inr fj_6))))), (hj_7, .inr (7, [.int 0, .int 0, .int 0, .int 0])), (hpr_3, .inr (7, [.int 0, .int 0, .int 0, .int 0])), (q_10, .inl (cA_10, 6, .inr (.inr (.inr (.inr (fun _ => none)))))), (q_11, .inl (cA_11, 4, .inr (.inr (.inr (.inr (fun _ => none)))))), (q_12, .inl (cA_12, 40, .inr (.inr (.inr (.inr (fun _ => none)))))), (q_13, .inl (cA_13, 8, .inl (fun _ => 0))), (q_14, .inl (cA_14, 8, .inl (fun _ => 0))), (q_15, .inl (cA_15, 8, .inl (fun _ => 0)))] H := hP
  have hD : va_D A [(h0, .inr (12, [.ref q_1, .ref q_9, .ref q_10, .ref q_11, .ref q_12, .ref q_13, .ref q_14, .ref q_15, .int 0, .int 0, .int 0, .int 0, .int 0, .int 0, .int 0, .long 0])), (q_1, .inr (6, [.ref hj_2, .ref hpr_3, .ref hqd_4, .int 0, .int 0, .int 1])), (hj_2, .inl (cR_5, 8, .inr (.inr (.inr (.inr fj_6))))), (hj_7, .inr (7, [.int 0, .int 0, .int 0, .int 0])), (hpr_3, .inr (7, [.int 0, .int 0, .int 0, .int 0])), (q_10, .inl (cA_10, 6, .inr (.inr (.inr (.inr (fun _ => none)))))), (q_11, .inl (cA_11, 4, .inr (.inr (.inr (.inr (fun _ => none)))))), (q_12, .inl (cA_12, 40, .inr (.inr (.inr (.inr (fun _ => none)))))), (q_13, .inl (cA_13, 8, .inl (fun _ => 0))), (q_14, .inl (cA_14, 8, .inl (fun _ => 0))), (q_15, .inl (cA_15, 8, .inl (fun _ => 0)))] := hD
  refine lv_aload_n hx hb dX7_init_101 rfl (lv_at hl 0 rfl) ?_
  refine lv_iconst (v := 0) hx hb dX7_init_102 (by decide) ?_
  refine va_put (D := (dC, dI)) (ci := 12) (v := .int 0) (ty := .int) (C := RX7) (T := TX7) (N := 16) hx hb hts (fun _ h9 => List.mem_cons_of_mem _ (List.mem_append_right _ (List.mem_append_right _ (List.mem_append_right _ (List.mem_append_left _ h9))))) tyX7 tyX7_ok nmX7 hown hK hP hD hS 0 rfl rfl 13 (by decide) (hts _ (List.mem_cons_of_mem _ (List.mem_append_left _ (List.mem_of_getElem? (i := 29) rfl)))) (fun _ h9 => h9) rfl (by decide +kernel) rfl rfl (Nat.le_of_ble_eq_true rfl) dX7_init_103 (fun H locs hP hD hS => ?_)
  have hP : va_P (dC, dI) vwCl [(h0, .inr (12, [.ref q_1, .ref q_9, .ref q_10, .ref q_11, .ref q_12, .ref q_13, .ref q_14, .ref q_15, .int 0, .int 0, .int 0, .int 0, .int 0, .int 0, .int 0, .long 0])), (q_1, .inr (6, [.ref hj_2, .ref hpr_3, .ref hqd_4, .int 0, .int 0, .int 1])), (hj_2, .inl (cR_5, 8, .inr (.inr (.inr (.inr fj_6))))), (hj_7, .inr (7, [.int 0, .int 0, .int 0, .int 0])), (hpr_3, .inr (7, [.int 0, .int 0, .int 0, .int 0])), (q_10, .inl (cA_10, 6, .inr (.inr (.inr (.inr (fun _ => none)))))), (q_11, .inl (cA_11, 4, .inr (.inr (.inr (.inr (fun _ => none)))))), (q_12, .inl (cA_12, 40, .inr (.inr (.inr (.inr (fun _ => none)))))), (q_13, .inl (cA_13, 8, .inl (fun _ => 0))), (q_14, .inl (cA_14, 8, .inl (fun _ => 0))), (q_15, .inl (cA_15, 8, .inl (fun _ => 0)))] H := hP
  have hD : va_D A [(h0, .inr (12, [.ref q_1, .ref q_9, .ref q_10, .ref q_11, .ref q_12, .ref q_13, .ref q_14, .ref q_15, .int 0, .int 0, .int 0, .int 0, .int 0, .int 0, .int 0, .long 0])), (q_1, .inr (6, [.ref hj_2, .ref hpr_3, .ref hqd_4, .int 0, .int 0, .int 1])), (hj_2, .inl (cR_5, 8, .inr (.inr (.inr (.inr fj_6))))), (hj_7, .inr (7, [.int 0, .int 0, .int 0, .int 0])), (hpr_3, .inr (7, [.int 0, .int 0, .int 0, .int 0])), (q_10, .inl (cA_10, 6, .inr (.inr (.inr (.inr (fun _ => none)))))), (q_11, .inl (cA_11, 4, .inr (.inr (.inr (.inr (fun _ => none)))))), (q_12, .inl (cA_12, 40, .inr (.inr (.inr (.inr (fun _ => none)))))), (q_13, .inl (cA_13, 8, .inl (fun _ => 0))), (q_14, .inl (cA_14, 8, .inl (fun _ => 0))), (q_15, .inl (cA_15, 8, .inl (fun _ => 0)))] := hD
  refine lv_aload_n hx hb dX7_init_106 rfl (lv_at hl 0 rfl) ?_
  refine lv_iconst (v := 0) hx hb dX7_init_107 (by decide) ?_
  refine va_put (D := (dC, dI)) (ci := 12) (v := .int 0) (ty := .int) (C := RX7) (T := TX7) (N := 16) hx hb hts (fun _ h9 => List.mem_cons_of_mem _ (List.mem_append_right _ (List.mem_append_right _ (List.mem_append_right _ (List.mem_append_left _ h9))))) tyX7 tyX7_ok nmX7 hown hK hP hD hS 0 rfl rfl 14 (by decide) (hts _ (List.mem_cons_of_mem _ (List.mem_append_left _ (List.mem_of_getElem? (i := 30) rfl)))) (fun _ h9 => h9) rfl (by decide +kernel) rfl rfl (Nat.le_of_ble_eq_true rfl) dX7_init_108 (fun H locs hP hD hS => ?_)
  have hP : va_P (dC, dI) vwCl [(h0, .inr (12, [.ref q_1, .ref q_9, .ref q_10, .ref q_11, .ref q_12, .ref q_13, .ref q_14, .ref q_15, .int 0, .int 0, .int 0, .int 0, .int 0, .int 0, .int 0, .long 0])), (q_1, .inr (6, [.ref hj_2, .ref hpr_3, .ref hqd_4, .int 0, .int 0, .int 1])), (hj_2, .inl (cR_5, 8, .inr (.inr (.inr (.inr fj_6))))), (hj_7, .inr (7, [.int 0, .int 0, .int 0, .int 0])), (hpr_3, .inr (7, [.int 0, .int 0, .int 0, .int 0])), (q_10, .inl (cA_10, 6, .inr (.inr (.inr (.inr (fun _ => none)))))), (q_11, .inl (cA_11, 4, .inr (.inr (.inr (.inr (fun _ => none)))))), (q_12, .inl (cA_12, 40, .inr (.inr (.inr (.inr (fun _ => none)))))), (q_13, .inl (cA_13, 8, .inl (fun _ => 0))), (q_14, .inl (cA_14, 8, .inl (fun _ => 0))), (q_15, .inl (cA_15, 8, .inl (fun _ => 0)))] H := hP
  have hD : va_D A [(h0, .inr (12, [.ref q_1, .ref q_9, .ref q_10, .ref q_11, .ref q_12, .ref q_13, .ref q_14, .ref q_15, .int 0, .int 0, .int 0, .int 0, .int 0, .int 0, .int 0, .long 0])), (q_1, .inr (6, [.ref hj_2, .ref hpr_3, .ref hqd_4, .int 0, .int 0, .int 1])), (hj_2, .inl (cR_5, 8, .inr (.inr (.inr (.inr fj_6))))), (hj_7, .inr (7, [.int 0, .int 0, .int 0, .int 0])), (hpr_3, .inr (7, [.int 0, .int 0, .int 0, .int 0])), (q_10, .inl (cA_10, 6, .inr (.inr (.inr (.inr (fun _ => none)))))), (q_11, .inl (cA_11, 4, .inr (.inr (.inr (.inr (fun _ => none)))))), (q_12, .inl (cA_12, 40, .inr (.inr (.inr (.inr (fun _ => none)))))), (q_13, .inl (cA_13, 8, .inl (fun _ => 0))), (q_14, .inl (cA_14, 8, .inl (fun _ => 0))), (q_15, .inl (cA_15, 8, .inl (fun _ => 0)))] := hD
  refine lv_aload_n hx hb dX7_init_111 rfl (lv_at hl 0 rfl) ?_
  refine lv_lconst (v := (0 : Int32).toInt64) hx hb dX7_init_112 (by decide) ?_
  refine va_put (D := (dC, dI)) (ci := 12) (v := .long ((0 : Int32).toInt64)) (ty := .long) (C := RX7) (T := TX7) (N := 16) hx hb hts (fun _ h9 => List.mem_cons_of_mem _ (List.mem_append_right _ (List.mem_append_right _ (List.mem_append_right _ (List.mem_append_left _ h9))))) tyX7 tyX7_ok nmX7 hown hK hP hD hS 0 rfl rfl 15 (by decide) (hts _ (List.mem_cons_of_mem _ (List.mem_append_left _ (List.mem_of_getElem? (i := 31) rfl)))) (fun _ h9 => h9) rfl (by decide +kernel) rfl rfl (Nat.le_of_ble_eq_true rfl) dX7_init_113 (fun H locs hP hD hS => ?_)
  have hP : va_P (dC, dI) vwCl [(h0, .inr (12, [.ref q_1, .ref q_9, .ref q_10, .ref q_11, .ref q_12, .ref q_13, .ref q_14, .ref q_15, .int 0, .int 0, .int 0, .int 0, .int 0, .int 0, .int 0, .long ((0 : Int32).toInt64)])), (q_1, .inr (6, [.ref hj_2, .ref hpr_3, .ref hqd_4, .int 0, .int 0, .int 1])), (hj_2, .inl (cR_5, 8, .inr (.inr (.inr (.inr fj_6))))), (hj_7, .inr (7, [.int 0, .int 0, .int 0, .int 0])), (hpr_3, .inr (7, [.int 0, .int 0, .int 0, .int 0])), (q_10, .inl (cA_10, 6, .inr (.inr (.inr (.inr (fun _ => none)))))), (q_11, .inl (cA_11, 4, .inr (.inr (.inr (.inr (fun _ => none)))))), (q_12, .inl (cA_12, 40, .inr (.inr (.inr (.inr (fun _ => none)))))), (q_13, .inl (cA_13, 8, .inl (fun _ => 0))), (q_14, .inl (cA_14, 8, .inl (fun _ => 0))), (q_15, .inl (cA_15, 8, .inl (fun _ => 0)))] H := hP
  have hD : va_D A [(h0, .inr (12, [.ref q_1, .ref q_9, .ref q_10, .ref q_11, .ref q_12, .ref q_13, .ref q_14, .ref q_15, .int 0, .int 0, .int 0, .int 0, .int 0, .int 0, .int 0, .long ((0 : Int32).toInt64)])), (q_1, .inr (6, [.ref hj_2, .ref hpr_3, .ref hqd_4, .int 0, .int 0, .int 1])), (hj_2, .inl (cR_5, 8, .inr (.inr (.inr (.inr fj_6))))), (hj_7, .inr (7, [.int 0, .int 0, .int 0, .int 0])), (hpr_3, .inr (7, [.int 0, .int 0, .int 0, .int 0])), (q_10, .inl (cA_10, 6, .inr (.inr (.inr (.inr (fun _ => none)))))), (q_11, .inl (cA_11, 4, .inr (.inr (.inr (.inr (fun _ => none)))))), (q_12, .inl (cA_12, 40, .inr (.inr (.inr (.inr (fun _ => none)))))), (q_13, .inl (cA_13, 8, .inl (fun _ => 0))), (q_14, .inl (cA_14, 8, .inl (fun _ => 0))), (q_15, .inl (cA_15, 8, .inl (fun _ => 0)))] := hD
  refine lv_iconst (v := 0) hx hb dX7_init_116 (by decide) ?_
  refine lv_istore_n (lv' := [(1, .int 0), (0, .ref h0)]) hx hb dX7_init_117 rfl hl (by decide) rfl (fun ls hl => ?_)
  refine lv_iload_n hx hb dX7_init_118 rfl (lv_at hl 0 rfl) ?_
  refine lv_aload_n hx hb dX7_init_119 rfl (lv_at hl 1 rfl) ?_
  refine va_get (D := (dC, dI)) (ci := 12) (v := .ref q_13) (C := RX7) (T := TX7) (N := 16) hx hb hts (fun _ h9 => List.mem_cons_of_mem _ (List.mem_append_right _ (List.mem_append_right _ (List.mem_append_right _ (List.mem_append_left _ h9))))) hown hK hP 0 rfl rfl 5 (by decide) (hts _ (List.mem_cons_of_mem _ (List.mem_append_left _ (List.mem_of_getElem? (i := 21) rfl)))) (fun _ h9 => h9) rfl dX7_init_120 ?_
  refine va_alen hx hb hK hP 8 4 rfl rfl (v := 8) rfl dX7_init_123 ?_
  refine lv_icmp_ge (tgt := 140) hx hb dX7_init_124 (by decide) (fun c_9 => absurd c_9 (by decide)) (fun _ => ?_)
  refine lv_aload_n hx hb dX7_init_127 rfl (lv_at hl 1 rfl) ?_
  refine va_get (D := (dC, dI)) (ci := 12) (v := .ref q_13) (C := RX7) (T := TX7) (N := 16) hx hb hts (fun _ h9 => List.mem_cons_of_mem _ (List.mem_append_right _ (List.mem_append_right _ (List.mem_append_right _ (List.mem_append_left _ h9))))) hown hK hP 0 rfl rfl 5 (by decide) (hts _ (List.mem_cons_of_mem _ (List.mem_append_left _ (List.mem_of_getElem? (i := 21) rfl)))) (fun _ h9 => h9) rfl dX7_init_128 ?_
  refine lv_iload_n hx hb dX7_init_131 rfl (lv_at hl 0 rfl) ?_
  refine lv_iconst (v := (-1)) hx hb dX7_init_132 (by decide) ?_
  refine va_iast hx hb hK hP hD hS 8 4 rfl rfl (fz_il (by decide)) dX7_init_133 (fun H locs hP hD hS => ?_)
  have hP : va_P (dC, dI) vwCl [(h0, .inr (12, [.ref q_1, .ref q_9, .ref q_10, .ref q_11, .ref q_12, .ref q_13, .ref q_14, .ref q_15, .int 0, .int 0, .int 0, .int 0, .int 0, .int 0, .int 0, .long ((0 : Int32).toInt64)])), (q_1, .inr (6, [.ref hj_2, .ref hpr_3, .ref hqd_4, .int 0, .int 0, .int 1])), (hj_2, .inl (cR_5, 8, .inr (.inr (.inr (.inr fj_6))))), (hj_7, .inr (7, [.int 0, .int 0, .int 0, .int 0])), (hpr_3, .inr (7, [.int 0, .int 0, .int 0, .int 0])), (q_10, .inl (cA_10, 6, .inr (.inr (.inr (.inr (fun _ => none)))))), (q_11, .inl (cA_11, 4, .inr (.inr (.inr (.inr (fun _ => none)))))), (q_12, .inl (cA_12, 40, .inr (.inr (.inr (.inr (fun _ => none)))))), (q_13, .inl (cA_13, 8, .inl (upd (fun _ => 0) (0 : Int32).toNatClampNeg (-1)))), (q_14, .inl (cA_14, 8, .inl (fun _ => 0))), (q_15, .inl (cA_15, 8, .inl (fun _ => 0)))] H := hP
  have hD : va_D A [(h0, .inr (12, [.ref q_1, .ref q_9, .ref q_10, .ref q_11, .ref q_12, .ref q_13, .ref q_14, .ref q_15, .int 0, .int 0, .int 0, .int 0, .int 0, .int 0, .int 0, .long ((0 : Int32).toInt64)])), (q_1, .inr (6, [.ref hj_2, .ref hpr_3, .ref hqd_4, .int 0, .int 0, .int 1])), (hj_2, .inl (cR_5, 8, .inr (.inr (.inr (.inr fj_6))))), (hj_7, .inr (7, [.int 0, .int 0, .int 0, .int 0])), (hpr_3, .inr (7, [.int 0, .int 0, .int 0, .int 0])), (q_10, .inl (cA_10, 6, .inr (.inr (.inr (.inr (fun _ => none)))))), (q_11, .inl (cA_11, 4, .inr (.inr (.inr (.inr (fun _ => none)))))), (q_12, .inl (cA_12, 40, .inr (.inr (.inr (.inr (fun _ => none)))))), (q_13, .inl (cA_13, 8, .inl (upd (fun _ => 0) (0 : Int32).toNatClampNeg (-1)))), (q_14, .inl (cA_14, 8, .inl (fun _ => 0))), (q_15, .inl (cA_15, 8, .inl (fun _ => 0)))] := hD
  refine lv_iinc (v := 1) (lv' := [(1, .int 1), (0, .ref h0)]) hx hb dX7_init_134 hl (k := 0) rfl (by decide) (by decide) rfl (fun ls hl => ?_)
  refine lv_goto (tgt := 118) hx hb dX7_init_137 (by decide) ?_
  refine lv_iload_n hx hb dX7_init_118 rfl (lv_at hl 0 rfl) ?_
  refine lv_aload_n hx hb dX7_init_119 rfl (lv_at hl 1 rfl) ?_
  refine va_get (D := (dC, dI)) (ci := 12) (v := .ref q_13) (C := RX7) (T := TX7) (N := 16) hx hb hts (fun _ h9 => List.mem_cons_of_mem _ (List.mem_append_right _ (List.mem_append_right _ (List.mem_append_right _ (List.mem_append_left _ h9))))) hown hK hP 0 rfl rfl 5 (by decide) (hts _ (List.mem_cons_of_mem _ (List.mem_append_left _ (List.mem_of_getElem? (i := 21) rfl)))) (fun _ h9 => h9) rfl dX7_init_120 ?_
  refine va_alen hx hb hK hP 8 4 rfl rfl (v := 8) rfl dX7_init_123 ?_
  refine lv_icmp_ge (tgt := 140) hx hb dX7_init_124 (by decide) (fun c_9 => absurd c_9 (by decide)) (fun _ => ?_)
  refine lv_aload_n hx hb dX7_init_127 rfl (lv_at hl 1 rfl) ?_
  refine va_get (D := (dC, dI)) (ci := 12) (v := .ref q_13) (C := RX7) (T := TX7) (N := 16) hx hb hts (fun _ h9 => List.mem_cons_of_mem _ (List.mem_append_right _ (List.mem_append_right _ (List.mem_append_right _ (List.mem_append_left _ h9))))) hown hK hP 0 rfl rfl 5 (by decide) (hts _ (List.mem_cons_of_mem _ (List.mem_append_left _ (List.mem_of_getElem? (i := 21) rfl)))) (fun _ h9 => h9) rfl dX7_init_128 ?_
  refine lv_iload_n hx hb dX7_init_131 rfl (lv_at hl 0 rfl) ?_
  refine lv_iconst (v := (-1)) hx hb dX7_init_132 (by decide) ?_
  refine va_iast hx hb hK hP hD hS 8 4 rfl rfl (fz_il (by decide)) dX7_init_133 (fun H locs hP hD hS => ?_)
  have hP : va_P (dC, dI) vwCl [(h0, .inr (12, [.ref q_1, .ref q_9, .ref q_10, .ref q_11, .ref q_12, .ref q_13, .ref q_14, .ref q_15, .int 0, .int 0, .int 0, .int 0, .int 0, .int 0, .int 0, .long ((0 : Int32).toInt64)])), (q_1, .inr (6, [.ref hj_2, .ref hpr_3, .ref hqd_4, .int 0, .int 0, .int 1])), (hj_2, .inl (cR_5, 8, .inr (.inr (.inr (.inr fj_6))))), (hj_7, .inr (7, [.int 0, .int 0, .int 0, .int 0])), (hpr_3, .inr (7, [.int 0, .int 0, .int 0, .int 0])), (q_10, .inl (cA_10, 6, .inr (.inr (.inr (.inr (fun _ => none)))))), (q_11, .inl (cA_11, 4, .inr (.inr (.inr (.inr (fun _ => none)))))), (q_12, .inl (cA_12, 40, .inr (.inr (.inr (.inr (fun _ => none)))))), (q_13, .inl (cA_13, 8, .inl (upd (upd (fun _ => 0) (0 : Int32).toNatClampNeg (-1)) (1 : Int32).toNatClampNeg (-1)))), (q_14, .inl (cA_14, 8, .inl (fun _ => 0))), (q_15, .inl (cA_15, 8, .inl (fun _ => 0)))] H := hP
  have hD : va_D A [(h0, .inr (12, [.ref q_1, .ref q_9, .ref q_10, .ref q_11, .ref q_12, .ref q_13, .ref q_14, .ref q_15, .int 0, .int 0, .int 0, .int 0, .int 0, .int 0, .int 0, .long ((0 : Int32).toInt64)])), (q_1, .inr (6, [.ref hj_2, .ref hpr_3, .ref hqd_4, .int 0, .int 0, .int 1])), (hj_2, .inl (cR_5, 8, .inr (.inr (.inr (.inr fj_6))))), (hj_7, .inr (7, [.int 0, .int 0, .int 0, .int 0])), (hpr_3, .inr (7, [.int 0, .int 0, .int 0, .int 0])), (q_10, .inl (cA_10, 6, .inr (.inr (.inr (.inr (fun _ => none)))))), (q_11, .inl (cA_11, 4, .inr (.inr (.inr (.inr (fun _ => none)))))), (q_12, .inl (cA_12, 40, .inr (.inr (.inr (.inr (fun _ => none)))))), (q_13, .inl (cA_13, 8, .inl (upd (upd (fun _ => 0) (0 : Int32).toNatClampNeg (-1)) (1 : Int32).toNatClampNeg (-1)))), (q_14, .inl (cA_14, 8, .inl (fun _ => 0))), (q_15, .inl (cA_15, 8, .inl (fun _ => 0)))] := hD
  refine lv_iinc (v := 2) (lv' := [(1, .int 2), (0, .ref h0)]) hx hb dX7_init_134 hl (k := 0) rfl (by decide) (by decide) rfl (fun ls hl => ?_)
  refine lv_goto (tgt := 118) hx hb dX7_init_137 (by decide) ?_
  refine lv_iload_n hx hb dX7_init_118 rfl (lv_at hl 0 rfl) ?_
  refine lv_aload_n hx hb dX7_init_119 rfl (lv_at hl 1 rfl) ?_
  refine va_get (D := (dC, dI)) (ci := 12) (v := .ref q_13) (C := RX7) (T := TX7) (N := 16) hx hb hts (fun _ h9 => List.mem_cons_of_mem _ (List.mem_append_right _ (List.mem_append_right _ (List.mem_append_right _ (List.mem_append_left _ h9))))) hown hK hP 0 rfl rfl 5 (by decide) (hts _ (List.mem_cons_of_mem _ (List.mem_append_left _ (List.mem_of_getElem? (i := 21) rfl)))) (fun _ h9 => h9) rfl dX7_init_120 ?_
  refine va_alen hx hb hK hP 8 4 rfl rfl (v := 8) rfl dX7_init_123 ?_
  refine lv_icmp_ge (tgt := 140) hx hb dX7_init_124 (by decide) (fun c_9 => absurd c_9 (by decide)) (fun _ => ?_)
  refine lv_aload_n hx hb dX7_init_127 rfl (lv_at hl 1 rfl) ?_
  refine va_get (D := (dC, dI)) (ci := 12) (v := .ref q_13) (C := RX7) (T := TX7) (N := 16) hx hb hts (fun _ h9 => List.mem_cons_of_mem _ (List.mem_append_right _ (List.mem_append_right _ (List.mem_append_right _ (List.mem_append_left _ h9))))) hown hK hP 0 rfl rfl 5 (by decide) (hts _ (List.mem_cons_of_mem _ (List.mem_append_left _ (List.mem_of_getElem? (i := 21) rfl)))) (fun _ h9 => h9) rfl dX7_init_128 ?_
  refine lv_iload_n hx hb dX7_init_131 rfl (lv_at hl 0 rfl) ?_
  refine lv_iconst (v := (-1)) hx hb dX7_init_132 (by decide) ?_
  refine va_iast hx hb hK hP hD hS 8 4 rfl rfl (fz_il (by decide)) dX7_init_133 (fun H locs hP hD hS => ?_)
  have hP : va_P (dC, dI) vwCl [(h0, .inr (12, [.ref q_1, .ref q_9, .ref q_10, .ref q_11, .ref q_12, .ref q_13, .ref q_14, .ref q_15, .int 0, .int 0, .int 0, .int 0, .int 0, .int 0, .int 0, .long ((0 : Int32).toInt64)])), (q_1, .inr (6, [.ref hj_2, .ref hpr_3, .ref hqd_4, .int 0, .int 0, .int 1])), (hj_2, .inl (cR_5, 8, .inr (.inr (.inr (.inr fj_6))))), (hj_7, .inr (7, [.int 0, .int 0, .int 0, .int 0])), (hpr_3, .inr (7, [.int 0, .int 0, .int 0, .int 0])), (q_10, .inl (cA_10, 6, .inr (.inr (.inr (.inr (fun _ => none)))))), (q_11, .inl (cA_11, 4, .inr (.inr (.inr (.inr (fun _ => none)))))), (q_12, .inl (cA_12, 40, .inr (.inr (.inr (.inr (fun _ => none)))))), (q_13, .inl (cA_13, 8, .inl (upd (upd (upd (fun _ => 0) (0 : Int32).toNatClampNeg (-1)) (1 : Int32).toNatClampNeg (-1)) (2 : Int32).toNatClampNeg (-1)))), (q_14, .inl (cA_14, 8, .inl (fun _ => 0))), (q_15, .inl (cA_15, 8, .inl (fun _ => 0)))] H := hP
  have hD : va_D A [(h0, .inr (12, [.ref q_1, .ref q_9, .ref q_10, .ref q_11, .ref q_12, .ref q_13, .ref q_14, .ref q_15, .int 0, .int 0, .int 0, .int 0, .int 0, .int 0, .int 0, .long ((0 : Int32).toInt64)])), (q_1, .inr (6, [.ref hj_2, .ref hpr_3, .ref hqd_4, .int 0, .int 0, .int 1])), (hj_2, .inl (cR_5, 8, .inr (.inr (.inr (.inr fj_6))))), (hj_7, .inr (7, [.int 0, .int 0, .int 0, .int 0])), (hpr_3, .inr (7, [.int 0, .int 0, .int 0, .int 0])), (q_10, .inl (cA_10, 6, .inr (.inr (.inr (.inr (fun _ => none)))))), (q_11, .inl (cA_11, 4, .inr (.inr (.inr (.inr (fun _ => none)))))), (q_12, .inl (cA_12, 40, .inr (.inr (.inr (.inr (fun _ => none)))))), (q_13, .inl (cA_13, 8, .inl (upd (upd (upd (fun _ => 0) (0 : Int32).toNatClampNeg (-1)) (1 : Int32).toNatClampNeg (-1)) (2 : Int32).toNatClampNeg (-1)))), (q_14, .inl (cA_14, 8, .inl (fun _ => 0))), (q_15, .inl (cA_15, 8, .inl (fun _ => 0)))] := hD
  refine lv_iinc (v := 3) (lv' := [(1, .int 3), (0, .ref h0)]) hx hb dX7_init_134 hl (k := 0) rfl (by decide) (by decide) rfl (fun ls hl => ?_)
  refine lv_goto (tgt := 118) hx hb dX7_init_137 (by decide) ?_
  refine lv_iload_n hx hb dX7_init_118 rfl (lv_at hl 0 rfl) ?_
  refine lv_aload_n hx hb dX7_init_119 rfl (lv_at hl 1 rfl) ?_
  refine va_get (D := (dC, dI)) (ci := 12) (v := .ref q_13) (C := RX7) (T := TX7) (N := 16) hx hb hts (fun _ h9 => List.mem_cons_of_mem _ (List.mem_append_right _ (List.mem_append_right _ (List.mem_append_right _ (List.mem_append_left _ h9))))) hown hK hP 0 rfl rfl 5 (by decide) (hts _ (List.mem_cons_of_mem _ (List.mem_append_left _ (List.mem_of_getElem? (i := 21) rfl)))) (fun _ h9 => h9) rfl dX7_init_120 ?_
  refine va_alen hx hb hK hP 8 4 rfl rfl (v := 8) rfl dX7_init_123 ?_
  refine lv_icmp_ge (tgt := 140) hx hb dX7_init_124 (by decide) (fun c_9 => absurd c_9 (by decide)) (fun _ => ?_)
  refine lv_aload_n hx hb dX7_init_127 rfl (lv_at hl 1 rfl) ?_
  refine va_get (D := (dC, dI)) (ci := 12) (v := .ref q_13) (C := RX7) (T := TX7) (N := 16) hx hb hts (fun _ h9 => List.mem_cons_of_mem _ (List.mem_append_right _ (List.mem_append_right _ (List.mem_append_right _ (List.mem_append_left _ h9))))) hown hK hP 0 rfl rfl 5 (by decide) (hts _ (List.mem_cons_of_mem _ (List.mem_append_left _ (List.mem_of_getElem? (i := 21) rfl)))) (fun _ h9 => h9) rfl dX7_init_128 ?_
  refine lv_iload_n hx hb dX7_init_131 rfl (lv_at hl 0 rfl) ?_
  refine lv_iconst (v := (-1)) hx hb dX7_init_132 (by decide) ?_
  refine va_iast hx hb hK hP hD hS 8 4 rfl rfl (fz_il (by decide)) dX7_init_133 (fun H locs hP hD hS => ?_)
  have hP : va_P (dC, dI) vwCl [(h0, .inr (12, [.ref q_1, .ref q_9, .ref q_10, .ref q_11, .ref q_12, .ref q_13, .ref q_14, .ref q_15, .int 0, .int 0, .int 0, .int 0, .int 0, .int 0, .int 0, .long ((0 : Int32).toInt64)])), (q_1, .inr (6, [.ref hj_2, .ref hpr_3, .ref hqd_4, .int 0, .int 0, .int 1])), (hj_2, .inl (cR_5, 8, .inr (.inr (.inr (.inr fj_6))))), (hj_7, .inr (7, [.int 0, .int 0, .int 0, .int 0])), (hpr_3, .inr (7, [.int 0, .int 0, .int 0, .int 0])), (q_10, .inl (cA_10, 6, .inr (.inr (.inr (.inr (fun _ => none)))))), (q_11, .inl (cA_11, 4, .inr (.inr (.inr (.inr (fun _ => none)))))), (q_12, .inl (cA_12, 40, .inr (.inr (.inr (.inr (fun _ => none)))))), (q_13, .inl (cA_13, 8, .inl (upd (upd (upd (upd (fun _ => 0) (0 : Int32).toNatClampNeg (-1)) (1 : Int32).toNatClampNeg (-1)) (2 : Int32).toNatClampNeg (-1)) (3 : Int32).toNatClampNeg (-1)))), (q_14, .inl (cA_14, 8, .inl (fun _ => 0))), (q_15, .inl (cA_15, 8, .inl (fun _ => 0)))] H := hP
  have hD : va_D A [(h0, .inr (12, [.ref q_1, .ref q_9, .ref q_10, .ref q_11, .ref q_12, .ref q_13, .ref q_14, .ref q_15, .int 0, .int 0, .int 0, .int 0, .int 0, .int 0, .int 0, .long ((0 : Int32).toInt64)])), (q_1, .inr (6, [.ref hj_2, .ref hpr_3, .ref hqd_4, .int 0, .int 0, .int 1])), (hj_2, .inl (cR_5, 8, .inr (.inr (.inr (.inr fj_6))))), (hj_7, .inr (7, [.int 0, .int 0, .int 0, .int 0])), (hpr_3, .inr (7, [.int 0, .int 0, .int 0, .int 0])), (q_10, .inl (cA_10, 6, .inr (.inr (.inr (.inr (fun _ => none)))))), (q_11, .inl (cA_11, 4, .inr (.inr (.inr (.inr (fun _ => none)))))), (q_12, .inl (cA_12, 40, .inr (.inr (.inr (.inr (fun _ => none)))))), (q_13, .inl (cA_13, 8, .inl (upd (upd (upd (upd (fun _ => 0) (0 : Int32).toNatClampNeg (-1)) (1 : Int32).toNatClampNeg (-1)) (2 : Int32).toNatClampNeg (-1)) (3 : Int32).toNatClampNeg (-1)))), (q_14, .inl (cA_14, 8, .inl (fun _ => 0))), (q_15, .inl (cA_15, 8, .inl (fun _ => 0)))] := hD
  refine lv_iinc (v := 4) (lv' := [(1, .int 4), (0, .ref h0)]) hx hb dX7_init_134 hl (k := 0) rfl (by decide) (by decide) rfl (fun ls hl => ?_)
  refine lv_goto (tgt := 118) hx hb dX7_init_137 (by decide) ?_
  refine lv_iload_n hx hb dX7_init_118 rfl (lv_at hl 0 rfl) ?_
  refine lv_aload_n hx hb dX7_init_119 rfl (lv_at hl 1 rfl) ?_
  refine va_get (D := (dC, dI)) (ci := 12) (v := .ref q_13) (C := RX7) (T := TX7) (N := 16) hx hb hts (fun _ h9 => List.mem_cons_of_mem _ (List.mem_append_right _ (List.mem_append_right _ (List.mem_append_right _ (List.mem_append_left _ h9))))) hown hK hP 0 rfl rfl 5 (by decide) (hts _ (List.mem_cons_of_mem _ (List.mem_append_left _ (List.mem_of_getElem? (i := 21) rfl)))) (fun _ h9 => h9) rfl dX7_init_120 ?_
  refine va_alen hx hb hK hP 8 4 rfl rfl (v := 8) rfl dX7_init_123 ?_
  refine lv_icmp_ge (tgt := 140) hx hb dX7_init_124 (by decide) (fun c_9 => absurd c_9 (by decide)) (fun _ => ?_)
  refine lv_aload_n hx hb dX7_init_127 rfl (lv_at hl 1 rfl) ?_
  refine va_get (D := (dC, dI)) (ci := 12) (v := .ref q_13) (C := RX7) (T := TX7) (N := 16) hx hb hts (fun _ h9 => List.mem_cons_of_mem _ (List.mem_append_right _ (List.mem_append_right _ (List.mem_append_right _ (List.mem_append_left _ h9))))) hown hK hP 0 rfl rfl 5 (by decide) (hts _ (List.mem_cons_of_mem _ (List.mem_append_left _ (List.mem_of_getElem? (i := 21) rfl)))) (fun _ h9 => h9) rfl dX7_init_128 ?_
  refine lv_iload_n hx hb dX7_init_131 rfl (lv_at hl 0 rfl) ?_
  refine lv_iconst (v := (-1)) hx hb dX7_init_132 (by decide) ?_
  refine va_iast hx hb hK hP hD hS 8 4 rfl rfl (fz_il (by decide)) dX7_init_133 (fun H locs hP hD hS => ?_)
  have hP : va_P (dC, dI) vwCl [(h0, .inr (12, [.ref q_1, .ref q_9, .ref q_10, .ref q_11, .ref q_12, .ref q_13, .ref q_14, .ref q_15, .int 0, .int 0, .int 0, .int 0, .int 0, .int 0, .int 0, .long ((0 : Int32).toInt64)])), (q_1, .inr (6, [.ref hj_2, .ref hpr_3, .ref hqd_4, .int 0, .int 0, .int 1])), (hj_2, .inl (cR_5, 8, .inr (.inr (.inr (.inr fj_6))))), (hj_7, .inr (7, [.int 0, .int 0, .int 0, .int 0])), (hpr_3, .inr (7, [.int 0, .int 0, .int 0, .int 0])), (q_10, .inl (cA_10, 6, .inr (.inr (.inr (.inr (fun _ => none)))))), (q_11, .inl (cA_11, 4, .inr (.inr (.inr (.inr (fun _ => none)))))), (q_12, .inl (cA_12, 40, .inr (.inr (.inr (.inr (fun _ => none)))))), (q_13, .inl (cA_13, 8, .inl (upd (upd (upd (upd (upd (fun _ => 0) (0 : Int32).toNatClampNeg (-1)) (1 : Int32).toNatClampNeg (-1)) (2 : Int32).toNatClampNeg (-1)) (3 : Int32).toNatClampNeg (-1)) (4 : Int32).toNatClampNeg (-1)))), (q_14, .inl (cA_14, 8, .inl (fun _ => 0))), (q_15, .inl (cA_15, 8, .inl (fun _ => 0)))] H := hP
  have hD : va_D A [(h0, .inr (12, [.ref q_1, .ref q_9, .ref q_10, .ref q_11, .ref q_12, .ref q_13, .ref q_14, .ref q_15, .int 0, .int 0, .int 0, .int 0, .int 0, .int 0, .int 0, .long ((0 : Int32).toInt64)])), (q_1, .inr (6, [.ref hj_2, .ref hpr_3, .ref hqd_4, .int 0, .int 0, .int 1])), (hj_2, .inl (cR_5, 8, .inr (.inr (.inr (.inr fj_6))))), (hj_7, .inr (7, [.int 0, .int 0, .int 0, .int 0])), (hpr_3, .inr (7, [.int 0, .int 0, .int 0, .int 0])), (q_10, .inl (cA_10, 6, .inr (.inr (.inr (.inr (fun _ => none)))))), (q_11, .inl (cA_11, 4, .inr (.inr (.inr (.inr (fun _ => none)))))), (q_12, .inl (cA_12, 40, .inr (.inr (.inr (.inr (fun _ => none)))))), (q_13, .inl (cA_13, 8, .inl (upd (upd (upd (upd (upd (fun _ => 0) (0 : Int32).toNatClampNeg (-1)) (1 : Int32).toNatClampNeg (-1)) (2 : Int32).toNatClampNeg (-1)) (3 : Int32).toNatClampNeg (-1)) (4 : Int32).toNatClampNeg (-1)))), (q_14, .inl (cA_14, 8, .inl (fun _ => 0))), (q_15, .inl (cA_15, 8, .inl (fun _ => 0)))] := hD
  refine lv_iinc (v := 5) (lv' := [(1, .int 5), (0, .ref h0)]) hx hb dX7_init_134 hl (k := 0) rfl (by decide) (by decide) rfl (fun ls hl => ?_)
  refine lv_goto (tgt := 118) hx hb dX7_init_137 (by decide) ?_
  refine lv_iload_n hx hb dX7_init_118 rfl (lv_at hl 0 rfl) ?_
  refine lv_aload_n hx hb dX7_init_119 rfl (lv_at hl 1 rfl) ?_
  refine va_get (D := (dC, dI)) (ci := 12) (v := .ref q_13) (C := RX7) (T := TX7) (N := 16) hx hb hts (fun _ h9 => List.mem_cons_of_mem _ (List.mem_append_right _ (List.mem_append_right _ (List.mem_append_right _ (List.mem_append_left _ h9))))) hown hK hP 0 rfl rfl 5 (by decide) (hts _ (List.mem_cons_of_mem _ (List.mem_append_left _ (List.mem_of_getElem? (i := 21) rfl)))) (fun _ h9 => h9) rfl dX7_init_120 ?_
  refine va_alen hx hb hK hP 8 4 rfl rfl (v := 8) rfl dX7_init_123 ?_
  refine lv_icmp_ge (tgt := 140) hx hb dX7_init_124 (by decide) (fun c_9 => absurd c_9 (by decide)) (fun _ => ?_)
  refine lv_aload_n hx hb dX7_init_127 rfl (lv_at hl 1 rfl) ?_
  refine va_get (D := (dC, dI)) (ci := 12) (v := .ref q_13) (C := RX7) (T := TX7) (N := 16) hx hb hts (fun _ h9 => List.mem_cons_of_mem _ (List.mem_append_right _ (List.mem_append_right _ (List.mem_append_right _ (List.mem_append_left _ h9))))) hown hK hP 0 rfl rfl 5 (by decide) (hts _ (List.mem_cons_of_mem _ (List.mem_append_left _ (List.mem_of_getElem? (i := 21) rfl)))) (fun _ h9 => h9) rfl dX7_init_128 ?_
  refine lv_iload_n hx hb dX7_init_131 rfl (lv_at hl 0 rfl) ?_
  refine lv_iconst (v := (-1)) hx hb dX7_init_132 (by decide) ?_
  refine va_iast hx hb hK hP hD hS 8 4 rfl rfl (fz_il (by decide)) dX7_init_133 (fun H locs hP hD hS => ?_)
  have hP : va_P (dC, dI) vwCl [(h0, .inr (12, [.ref q_1, .ref q_9, .ref q_10, .ref q_11, .ref q_12, .ref q_13, .ref q_14, .ref q_15, .int 0, .int 0, .int 0, .int 0, .int 0, .int 0, .int 0, .long ((0 : Int32).toInt64)])), (q_1, .inr (6, [.ref hj_2, .ref hpr_3, .ref hqd_4, .int 0, .int 0, .int 1])), (hj_2, .inl (cR_5, 8, .inr (.inr (.inr (.inr fj_6))))), (hj_7, .inr (7, [.int 0, .int 0, .int 0, .int 0])), (hpr_3, .inr (7, [.int 0, .int 0, .int 0, .int 0])), (q_10, .inl (cA_10, 6, .inr (.inr (.inr (.inr (fun _ => none)))))), (q_11, .inl (cA_11, 4, .inr (.inr (.inr (.inr (fun _ => none)))))), (q_12, .inl (cA_12, 40, .inr (.inr (.inr (.inr (fun _ => none)))))), (q_13, .inl (cA_13, 8, .inl (upd (upd (upd (upd (upd (upd (fun _ => 0) (0 : Int32).toNatClampNeg (-1)) (1 : Int32).toNatClampNeg (-1)) (2 : Int32).toNatClampNeg (-1)) (3 : Int32).toNatClampNeg (-1)) (4 : Int32).toNatClampNeg (-1)) (5 : Int32).toNatClampNeg (-1)))), (q_14, .inl (cA_14, 8, .inl (fun _ => 0))), (q_15, .inl (cA_15, 8, .inl (fun _ => 0)))] H := hP
  have hD : va_D A [(h0, .inr (12, [.ref q_1, .ref q_9, .ref q_10, .ref q_11, .ref q_12, .ref q_13, .ref q_14, .ref q_15, .int 0, .int 0, .int 0, .int 0, .int 0, .int 0, .int 0, .long ((0 : Int32).toInt64)])), (q_1, .inr (6, [.ref hj_2, .ref hpr_3, .ref hqd_4, .int 0, .int 0, .int 1])), (hj_2, .inl (cR_5, 8, .inr (.inr (.inr (.inr fj_6))))), (hj_7, .inr (7, [.int 0, .int 0, .int 0, .int 0])), (hpr_3, .inr (7, [.int 0, .int 0, .int 0, .int 0])), (q_10, .inl (cA_10, 6, .inr (.inr (.inr (.inr (fun _ => none)))))), (q_11, .inl (cA_11, 4, .inr (.inr (.inr (.inr (fun _ => none)))))), (q_12, .inl (cA_12, 40, .inr (.inr (.inr (.inr (fun _ => none)))))), (q_13, .inl (cA_13, 8, .inl (upd (upd (upd (upd (upd (upd (fun _ => 0) (0 : Int32).toNatClampNeg (-1)) (1 : Int32).toNatClampNeg (-1)) (2 : Int32).toNatClampNeg (-1)) (3 : Int32).toNatClampNeg (-1)) (4 : Int32).toNatClampNeg (-1)) (5 : Int32).toNatClampNeg (-1)))), (q_14, .inl (cA_14, 8, .inl (fun _ => 0))), (q_15, .inl (cA_15, 8, .inl (fun _ => 0)))] := hD
  refine lv_iinc (v := 6) (lv' := [(1, .int 6), (0, .ref h0)]) hx hb dX7_init_134 hl (k := 0) rfl (by decide) (by decide) rfl (fun ls hl => ?_)
  refine lv_goto (tgt := 118) hx hb dX7_init_137 (by decide) ?_
  refine lv_iload_n hx hb dX7_init_118 rfl (lv_at hl 0 rfl) ?_
  refine lv_aload_n hx hb dX7_init_119 rfl (lv_at hl 1 rfl) ?_
  refine va_get (D := (dC, dI)) (ci := 12) (v := .ref q_13) (C := RX7) (T := TX7) (N := 16) hx hb hts (fun _ h9 => List.mem_cons_of_mem _ (List.mem_append_right _ (List.mem_append_right _ (List.mem_append_right _ (List.mem_append_left _ h9))))) hown hK hP 0 rfl rfl 5 (by decide) (hts _ (List.mem_cons_of_mem _ (List.mem_append_left _ (List.mem_of_getElem? (i := 21) rfl)))) (fun _ h9 => h9) rfl dX7_init_120 ?_
  refine va_alen hx hb hK hP 8 4 rfl rfl (v := 8) rfl dX7_init_123 ?_
  refine lv_icmp_ge (tgt := 140) hx hb dX7_init_124 (by decide) (fun c_9 => absurd c_9 (by decide)) (fun _ => ?_)
  refine lv_aload_n hx hb dX7_init_127 rfl (lv_at hl 1 rfl) ?_
  refine va_get (D := (dC, dI)) (ci := 12) (v := .ref q_13) (C := RX7) (T := TX7) (N := 16) hx hb hts (fun _ h9 => List.mem_cons_of_mem _ (List.mem_append_right _ (List.mem_append_right _ (List.mem_append_right _ (List.mem_append_left _ h9))))) hown hK hP 0 rfl rfl 5 (by decide) (hts _ (List.mem_cons_of_mem _ (List.mem_append_left _ (List.mem_of_getElem? (i := 21) rfl)))) (fun _ h9 => h9) rfl dX7_init_128 ?_
  refine lv_iload_n hx hb dX7_init_131 rfl (lv_at hl 0 rfl) ?_
  refine lv_iconst (v := (-1)) hx hb dX7_init_132 (by decide) ?_
  refine va_iast hx hb hK hP hD hS 8 4 rfl rfl (fz_il (by decide)) dX7_init_133 (fun H locs hP hD hS => ?_)
  have hP : va_P (dC, dI) vwCl [(h0, .inr (12, [.ref q_1, .ref q_9, .ref q_10, .ref q_11, .ref q_12, .ref q_13, .ref q_14, .ref q_15, .int 0, .int 0, .int 0, .int 0, .int 0, .int 0, .int 0, .long ((0 : Int32).toInt64)])), (q_1, .inr (6, [.ref hj_2, .ref hpr_3, .ref hqd_4, .int 0, .int 0, .int 1])), (hj_2, .inl (cR_5, 8, .inr (.inr (.inr (.inr fj_6))))), (hj_7, .inr (7, [.int 0, .int 0, .int 0, .int 0])), (hpr_3, .inr (7, [.int 0, .int 0, .int 0, .int 0])), (q_10, .inl (cA_10, 6, .inr (.inr (.inr (.inr (fun _ => none)))))), (q_11, .inl (cA_11, 4, .inr (.inr (.inr (.inr (fun _ => none)))))), (q_12, .inl (cA_12, 40, .inr (.inr (.inr (.inr (fun _ => none)))))), (q_13, .inl (cA_13, 8, .inl (upd (upd (upd (upd (upd (upd (upd (fun _ => 0) (0 : Int32).toNatClampNeg (-1)) (1 : Int32).toNatClampNeg (-1)) (2 : Int32).toNatClampNeg (-1)) (3 : Int32).toNatClampNeg (-1)) (4 : Int32).toNatClampNeg (-1)) (5 : Int32).toNatClampNeg (-1)) (6 : Int32).toNatClampNeg (-1)))), (q_14, .inl (cA_14, 8, .inl (fun _ => 0))), (q_15, .inl (cA_15, 8, .inl (fun _ => 0)))] H := hP
  have hD : va_D A [(h0, .inr (12, [.ref q_1, .ref q_9, .ref q_10, .ref q_11, .ref q_12, .ref q_13, .ref q_14, .ref q_15, .int 0, .int 0, .int 0, .int 0, .int 0, .int 0, .int 0, .long ((0 : Int32).toInt64)])), (q_1, .inr (6, [.ref hj_2, .ref hpr_3, .ref hqd_4, .int 0, .int 0, .int 1])), (hj_2, .inl (cR_5, 8, .inr (.inr (.inr (.inr fj_6))))), (hj_7, .inr (7, [.int 0, .int 0, .int 0, .int 0])), (hpr_3, .inr (7, [.int 0, .int 0, .int 0, .int 0])), (q_10, .inl (cA_10, 6, .inr (.inr (.inr (.inr (fun _ => none)))))), (q_11, .inl (cA_11, 4, .inr (.inr (.inr (.inr (fun _ => none)))))), (q_12, .inl (cA_12, 40, .inr (.inr (.inr (.inr (fun _ => none)))))), (q_13, .inl (cA_13, 8, .inl (upd (upd (upd (upd (upd (upd (upd (fun _ => 0) (0 : Int32).toNatClampNeg (-1)) (1 : Int32).toNatClampNeg (-1)) (2 : Int32).toNatClampNeg (-1)) (3 : Int32).toNatClampNeg (-1)) (4 : Int32).toNatClampNeg (-1)) (5 : Int32).toNatClampNeg (-1)) (6 : Int32).toNatClampNeg (-1)))), (q_14, .inl (cA_14, 8, .inl (fun _ => 0))), (q_15, .inl (cA_15, 8, .inl (fun _ => 0)))] := hD
  refine lv_iinc (v := 7) (lv' := [(1, .int 7), (0, .ref h0)]) hx hb dX7_init_134 hl (k := 0) rfl (by decide) (by decide) rfl (fun ls hl => ?_)
  refine lv_goto (tgt := 118) hx hb dX7_init_137 (by decide) ?_
  refine lv_iload_n hx hb dX7_init_118 rfl (lv_at hl 0 rfl) ?_
  refine lv_aload_n hx hb dX7_init_119 rfl (lv_at hl 1 rfl) ?_
  refine va_get (D := (dC, dI)) (ci := 12) (v := .ref q_13) (C := RX7) (T := TX7) (N := 16) hx hb hts (fun _ h9 => List.mem_cons_of_mem _ (List.mem_append_right _ (List.mem_append_right _ (List.mem_append_right _ (List.mem_append_left _ h9))))) hown hK hP 0 rfl rfl 5 (by decide) (hts _ (List.mem_cons_of_mem _ (List.mem_append_left _ (List.mem_of_getElem? (i := 21) rfl)))) (fun _ h9 => h9) rfl dX7_init_120 ?_
  refine va_alen hx hb hK hP 8 4 rfl rfl (v := 8) rfl dX7_init_123 ?_
  refine lv_icmp_ge (tgt := 140) hx hb dX7_init_124 (by decide) (fun c_9 => absurd c_9 (by decide)) (fun _ => ?_)
  refine lv_aload_n hx hb dX7_init_127 rfl (lv_at hl 1 rfl) ?_
  refine va_get (D := (dC, dI)) (ci := 12) (v := .ref q_13) (C := RX7) (T := TX7) (N := 16) hx hb hts (fun _ h9 => List.mem_cons_of_mem _ (List.mem_append_right _ (List.mem_append_right _ (List.mem_append_right _ (List.mem_append_left _ h9))))) hown hK hP 0 rfl rfl 5 (by decide) (hts _ (List.mem_cons_of_mem _ (List.mem_append_left _ (List.mem_of_getElem? (i := 21) rfl)))) (fun _ h9 => h9) rfl dX7_init_128 ?_
  refine lv_iload_n hx hb dX7_init_131 rfl (lv_at hl 0 rfl) ?_
  refine lv_iconst (v := (-1)) hx hb dX7_init_132 (by decide) ?_
  refine va_iast hx hb hK hP hD hS 8 4 rfl rfl (fz_il (by decide)) dX7_init_133 (fun H locs hP hD hS => ?_)
  have hP : va_P (dC, dI) vwCl [(h0, .inr (12, [.ref q_1, .ref q_9, .ref q_10, .ref q_11, .ref q_12, .ref q_13, .ref q_14, .ref q_15, .int 0, .int 0, .int 0, .int 0, .int 0, .int 0, .int 0, .long ((0 : Int32).toInt64)])), (q_1, .inr (6, [.ref hj_2, .ref hpr_3, .ref hqd_4, .int 0, .int 0, .int 1])), (hj_2, .inl (cR_5, 8, .inr (.inr (.inr (.inr fj_6))))), (hj_7, .inr (7, [.int 0, .int 0, .int 0, .int 0])), (hpr_3, .inr (7, [.int 0, .int 0, .int 0, .int 0])), (q_10, .inl (cA_10, 6, .inr (.inr (.inr (.inr (fun _ => none)))))), (q_11, .inl (cA_11, 4, .inr (.inr (.inr (.inr (fun _ => none)))))), (q_12, .inl (cA_12, 40, .inr (.inr (.inr (.inr (fun _ => none)))))), (q_13, .inl (cA_13, 8, .inl (upd (upd (upd (upd (upd (upd (upd (upd (fun _ => 0) (0 : Int32).toNatClampNeg (-1)) (1 : Int32).toNatClampNeg (-1)) (2 : Int32).toNatClampNeg (-1)) (3 : Int32).toNatClampNeg (-1)) (4 : Int32).toNatClampNeg (-1)) (5 : Int32).toNatClampNeg (-1)) (6 : Int32).toNatClampNeg (-1)) (7 : Int32).toNatClampNeg (-1)))), (q_14, .inl (cA_14, 8, .inl (fun _ => 0))), (q_15, .inl (cA_15, 8, .inl (fun _ => 0)))] H := hP
  have hD : va_D A [(h0, .inr (12, [.ref q_1, .ref q_9, .ref q_10, .ref q_11, .ref q_12, .ref q_13, .ref q_14, .ref q_15, .int 0, .int 0, .int 0, .int 0, .int 0, .int 0, .int 0, .long ((0 : Int32).toInt64)])), (q_1, .inr (6, [.ref hj_2, .ref hpr_3, .ref hqd_4, .int 0, .int 0, .int 1])), (hj_2, .inl (cR_5, 8, .inr (.inr (.inr (.inr fj_6))))), (hj_7, .inr (7, [.int 0, .int 0, .int 0, .int 0])), (hpr_3, .inr (7, [.int 0, .int 0, .int 0, .int 0])), (q_10, .inl (cA_10, 6, .inr (.inr (.inr (.inr (fun _ => none)))))), (q_11, .inl (cA_11, 4, .inr (.inr (.inr (.inr (fun _ => none)))))), (q_12, .inl (cA_12, 40, .inr (.inr (.inr (.inr (fun _ => none)))))), (q_13, .inl (cA_13, 8, .inl (upd (upd (upd (upd (upd (upd (upd (upd (fun _ => 0) (0 : Int32).toNatClampNeg (-1)) (1 : Int32).toNatClampNeg (-1)) (2 : Int32).toNatClampNeg (-1)) (3 : Int32).toNatClampNeg (-1)) (4 : Int32).toNatClampNeg (-1)) (5 : Int32).toNatClampNeg (-1)) (6 : Int32).toNatClampNeg (-1)) (7 : Int32).toNatClampNeg (-1)))), (q_14, .inl (cA_14, 8, .inl (fun _ => 0))), (q_15, .inl (cA_15, 8, .inl (fun _ => 0)))] := hD
  refine lv_iinc (v := 8) (lv' := [(1, .int 8), (0, .ref h0)]) hx hb dX7_init_134 hl (k := 0) rfl (by decide) (by decide) rfl (fun ls hl => ?_)
  refine lv_goto (tgt := 118) hx hb dX7_init_137 (by decide) ?_
  refine lv_iload_n hx hb dX7_init_118 rfl (lv_at hl 0 rfl) ?_
  refine lv_aload_n hx hb dX7_init_119 rfl (lv_at hl 1 rfl) ?_
  refine va_get (D := (dC, dI)) (ci := 12) (v := .ref q_13) (C := RX7) (T := TX7) (N := 16) hx hb hts (fun _ h9 => List.mem_cons_of_mem _ (List.mem_append_right _ (List.mem_append_right _ (List.mem_append_right _ (List.mem_append_left _ h9))))) hown hK hP 0 rfl rfl 5 (by decide) (hts _ (List.mem_cons_of_mem _ (List.mem_append_left _ (List.mem_of_getElem? (i := 21) rfl)))) (fun _ h9 => h9) rfl dX7_init_120 ?_
  refine va_alen hx hb hK hP 8 4 rfl rfl (v := 8) rfl dX7_init_123 ?_
  refine lv_icmp_ge (tgt := 140) hx hb dX7_init_124 (by decide) (fun _ => ?_) (fun c_9 => absurd (by decide) c_9)
  have hP9 := hP.sub (ws' := [(h0, .inr (12, [.ref q_1, .ref q_9, .ref q_10, .ref q_11, .ref q_12, .ref q_13, .ref q_14, .ref q_15, .int 0, .int 0, .int 0, .int 0, .int 0, .int 0, .int 0, .long ((0 : Int32).toInt64)])), (q_1, .inr (6, [.ref hj_2, .ref hpr_3, .ref hqd_4, .int 0, .int 0, .int 1])), (hj_2, .inl (cR_5, 8, .inr (.inr (.inr (.inr fj_6))))), (hj_7, .inr (7, [.int 0, .int 0, .int 0, .int 0])), (hpr_3, .inr (7, [.int 0, .int 0, .int 0, .int 0])), (q_13, .inl (cA_13, 8, .inl (upd (upd (upd (upd (upd (upd (upd (upd (fun _ => 0) (0 : Int32).toNatClampNeg (-1)) (1 : Int32).toNatClampNeg (-1)) (2 : Int32).toNatClampNeg (-1)) (3 : Int32).toNatClampNeg (-1)) (4 : Int32).toNatClampNeg (-1)) (5 : Int32).toNatClampNeg (-1)) (6 : Int32).toNatClampNeg (-1)) (7 : Int32).toNatClampNeg (-1)))), (q_10, .inl (cA_10, 6, .inr (.inr (.inr (.inr fun _ => none))))), (q_11, .inl (cA_11, 4, .inr (.inr (.inr (.inr fun _ => none)))))]) [0, 1, 2, 3, 4, 8, 5, 6] rfl
  have hD9 := hD.sub (ws' := [(h0, .inr (12, [.ref q_1, .ref q_9, .ref q_10, .ref q_11, .ref q_12, .ref q_13, .ref q_14, .ref q_15, .int 0, .int 0, .int 0, .int 0, .int 0, .int 0, .int 0, .long ((0 : Int32).toInt64)])), (q_1, .inr (6, [.ref hj_2, .ref hpr_3, .ref hqd_4, .int 0, .int 0, .int 1])), (hj_2, .inl (cR_5, 8, .inr (.inr (.inr (.inr fj_6))))), (hj_7, .inr (7, [.int 0, .int 0, .int 0, .int 0])), (hpr_3, .inr (7, [.int 0, .int 0, .int 0, .int 0])), (q_13, .inl (cA_13, 8, .inl (upd (upd (upd (upd (upd (upd (upd (upd (fun _ => 0) (0 : Int32).toNatClampNeg (-1)) (1 : Int32).toNatClampNeg (-1)) (2 : Int32).toNatClampNeg (-1)) (3 : Int32).toNatClampNeg (-1)) (4 : Int32).toNatClampNeg (-1)) (5 : Int32).toNatClampNeg (-1)) (6 : Int32).toNatClampNeg (-1)) (7 : Int32).toNatClampNeg (-1)))), (q_10, .inl (cA_10, 6, .inr (.inr (.inr (.inr fun _ => none))))), (q_11, .inl (cA_11, 4, .inr (.inr (.inr (.inr fun _ => none)))))]) [0, 1, 2, 3, 4, 8, 5, 6] (by decide) rfl
  have hK9 := hK.sub (tys' := [(cR_5, .object RX2), (cA_13, .int), (cA_10, .object RX0), (cA_11, .object RX3)]) [0, 4, 1, 2] rfl
  refine W.widen (k := 26) (n := 401) (Nat.le_of_ble_eq_true rfl) (Nat.le_of_ble_eq_true rfl) ?_
  exact W.vret hx hb hr (fun t ht hW => ⟨⟨(), rfl, trivial, ⟨q_1, q_9, q_10, q_11, q_12, q_13, q_14, q_15, hj_2, hpr_3, hqd_4, hj_7, cR_5, cA_13, cA_10, cA_11, fj_6, (upd (upd (upd (upd (upd (upd (upd (upd (fun _ => 0) (0 : Int32).toNatClampNeg (-1)) (1 : Int32).toNatClampNeg (-1)) (2 : Int32).toNatClampNeg (-1)) (3 : Int32).toNatClampNeg (-1)) (4 : Int32).toNatClampNeg (-1)) (5 : Int32).toNatClampNeg (-1)) (6 : Int32).toNatClampNeg (-1)) (7 : Int32).toNatClampNeg (-1)), (fun _ => none), (fun _ => none), (by assumption), (by intro j hj; rcases (show j = 0 ∨ j = 1 ∨ j = 2 ∨ j = 3 ∨ j = 4 ∨ j = 5 ∨ j = 6 ∨ j = 7 by omega) with rfl | rfl | rfl | rfl | rfl | rfl | rfl | rfl <;> first | rfl | decide), by rw [ht]; exact hP9, va_K.moved hW.alike hK9, hD9⟩⟩, hS.F ht⟩) hS.2.2 dX7_init_140
def v_c_X7_isOnPaper : List Cond := .code yX7_isOnPaper cX7_isOnPaper 2 (some .boolean) :: ([] ++ (([] : List Cond)))
set_option maxRecDepth 20000 in
theorem i_c_X7_isOnPaper : ∀ w ∈ v_c_X7_isOnPaper, w ∈ lw_tbl := List.forall_mem_cons.mpr ⟨List.mem_of_getElem? (i := 436) (by decide +kernel), List.forall_mem_append.mpr ⟨fun _ h => absurd h List.not_mem_nil, fun _ h => absurd h List.not_mem_nil⟩⟩
theorem q_c_X7_isOnPaper_0 {p0 p1 : Int32} (c_1 : p0 < (0 : Int32)) : ¬ (fz_in p0 0 20 ∧ fz_in p1 0 20) := by
  first | assumption | (simp_all [fz_in, fz_v]; done) | (simp only [fz_in, fz_v] at *; grind)
theorem q_c_X7_isOnPaper_1 {p0 p1 : Int32} (c_1 : ¬ p0 < (0 : Int32)) (c_2 : (20 : Int32) < p0) : ¬ (fz_in p0 0 20 ∧ fz_in p1 0 20) := by
  first | assumption | (simp_all [fz_in, fz_v]; done) | (simp only [fz_in, fz_v] at *; grind)
theorem q_c_X7_isOnPaper_2 {p0 p1 : Int32} (c_1 : ¬ p0 < (0 : Int32)) (c_2 : ¬ (20 : Int32) < p0) (c_3 : p1 < (0 : Int32)) : ¬ (fz_in p0 0 20 ∧ fz_in p1 0 20) := by
  first | assumption | (simp_all [fz_in, fz_v]; done) | (simp only [fz_in, fz_v] at *; grind)
theorem q_c_X7_isOnPaper_3 {p0 p1 : Int32} (c_1 : ¬ p0 < (0 : Int32)) (c_2 : ¬ (20 : Int32) < p0) (c_3 : ¬ p1 < (0 : Int32)) (c_4 : (20 : Int32) < p1) : ¬ (fz_in p0 0 20 ∧ fz_in p1 0 20) := by
  first | assumption | (simp_all [fz_in, fz_v]; done) | (simp only [fz_in, fz_v] at *; grind)
theorem q_c_X7_isOnPaper_4 {p0 p1 : Int32} (c_1 : ¬ p0 < (0 : Int32)) (c_2 : ¬ (20 : Int32) < p0) (c_3 : ¬ p1 < (0 : Int32)) (c_4 : ¬ (20 : Int32) < p1) : fz_in p0 0 20 := by
  first | assumption | (simp_all [fz_in, fz_v]; done) | (simp only [fz_in, fz_v] at *; grind)
theorem q_c_X7_isOnPaper_5 {p0 p1 : Int32} (c_1 : ¬ p0 < (0 : Int32)) (c_2 : ¬ (20 : Int32) < p0) (c_3 : ¬ p1 < (0 : Int32)) (c_4 : ¬ (20 : Int32) < p1) : fz_in p1 0 20 := by
  first | assumption | (simp_all [fz_in, fz_v]; done) | (simp only [fz_in, fz_v] at *; grind)
set_option maxHeartbeats 4000000 in
set_option maxRecDepth 100000 in
theorem c_X7_isOnPaper (l : Launch) (dC : Nat → ClassId) (dI : Nat → Nat → Nat) (e0 : Nat) (p0 p1 : Int32) (sz : Nat) : Met l yX7_isOnPaper v_c_X7_isOnPaper ({ frames := 0, cells := 0, slots := 0, locals := 0 }) (fz_P (dC, dI) e0 [] [] sz (fun q : Nat => sz ≤ q) [.int p0, .int p1]) (va_Qi (fun (r : Int32) (u : Unit) => (r = 1 ∧ fz_in p0 0 20 ∧ fz_in p1 0 20) ∨ (r = 0 ∧ (¬ (fz_in p0 0 20 ∧ fz_in p1 0 20)))) (fun (u : Unit) (t : State) => True) (fun q : Nat => sz ≤ q)) 0 0 (fun q : Nat => sz ≤ q) := by
  refine Met.ofW (cc := cX7_isOnPaper) (maxL := 2) (ret := (some .boolean)) (by decide) rfl ?_
  intro p e s m args below meth c s₁ B hml hv
  obtain ⟨rfl, hsz, hP, hK, hD0, hAm⟩ := hv
  have hx := B.exec
  have hb := B.bytes
  have hr := B.returns
  have hts := atoms_spec (ws := v_c_X7_isOnPaper) B.pre
  have hown : s.vm.findClass RX7 = some m.cls := findClass_of_methodNamed B.named
  have hlocks := B.notSynchronized
  subst hsz
  have hD := hD0
  generalize hAe : (fun q : Nat => s.heap.size ≤ q) = A at hAm ⊢
  have hA : ∀ q : Nat, s.heap.size ≤ q → A q := fun q h => by rw [← hAe]; exact h
  have hS : va_S A s.heap s.heap [] := va_S.rf
  have hP : va_P (dC, dI) vwCl [] s.heap := hP
  have hl := lv_entry ([.int p0, .int p1]) (n := 2) (Nat.le_of_ble_eq_true rfl)
  rw [lg_entry_eq]
  generalize (lg_sl ([.int p0, .int p1]) ++ List.replicate (2 - (lg_sl ([.int p0, .int p1])).length) Slot.unset).toArray = ls at hl ⊢
  have hl : lv_has ls 2 [(0, .int p0), (1, .int p1)] := hl
  refine lv_iload_n hx hb dX7_isOnPaper_0 rfl (lv_at hl 0 rfl) ?_
  refine lv_if_lt (tgt := 24) hx hb dX7_isOnPaper_1 (by decide) (fun c_1 => ?_) (fun c_1 => ?_)
  · refine lv_iconst (v := 0) hx hb dX7_isOnPaper_24 (by decide) ?_
    refine W.widen (k := 0) (n := 0) (Nat.le_of_ble_eq_true rfl) (Nat.le_of_ble_eq_true rfl) ?_
    exact W.zret (v := 0) hx hb hr rfl (fun t ht hW => ⟨⟨0, (), rfl, Or.inr (⟨rfl, (q_c_X7_isOnPaper_0 c_1)⟩), trivial⟩, hS.F ht⟩) hS.2.2 dX7_isOnPaper_25
  · refine lv_iload_n hx hb dX7_isOnPaper_4 rfl (lv_at hl 0 rfl) ?_
    refine lv_bipush (v := 20) hx hb dX7_isOnPaper_5 (by decide) ?_
    refine lv_icmp_gt (tgt := 24) hx hb dX7_isOnPaper_7 (by decide) (fun c_2 => ?_) (fun c_2 => ?_)
    · refine lv_iconst (v := 0) hx hb dX7_isOnPaper_24 (by decide) ?_
      refine W.widen (k := 0) (n := 0) (Nat.le_of_ble_eq_true rfl) (Nat.le_of_ble_eq_true rfl) ?_
      exact W.zret (v := 0) hx hb hr rfl (fun t ht hW => ⟨⟨0, (), rfl, Or.inr (⟨rfl, (q_c_X7_isOnPaper_1 c_1 c_2)⟩), trivial⟩, hS.F ht⟩) hS.2.2 dX7_isOnPaper_25
    · refine lv_iload_n hx hb dX7_isOnPaper_10 rfl (lv_at hl 1 rfl) ?_
      refine lv_if_lt (tgt := 24) hx hb dX7_isOnPaper_11 (by decide) (fun c_3 => ?_) (fun c_3 => ?_)
      · refine lv_iconst (v := 0) hx hb dX7_isOnPaper_24 (by decide) ?_
        refine W.widen (k := 0) (n := 0) (Nat.le_of_ble_eq_true rfl) (Nat.le_of_ble_eq_true rfl) ?_
        exact W.zret (v := 0) hx hb hr rfl (fun t ht hW => ⟨⟨0, (), rfl, Or.inr (⟨rfl, (q_c_X7_isOnPaper_2 c_1 c_2 c_3)⟩), trivial⟩, hS.F ht⟩) hS.2.2 dX7_isOnPaper_25
      · refine lv_iload_n hx hb dX7_isOnPaper_14 rfl (lv_at hl 1 rfl) ?_
        refine lv_bipush (v := 20) hx hb dX7_isOnPaper_15 (by decide) ?_
        refine lv_icmp_gt (tgt := 24) hx hb dX7_isOnPaper_17 (by decide) (fun c_4 => ?_) (fun c_4 => ?_)
        · refine lv_iconst (v := 0) hx hb dX7_isOnPaper_24 (by decide) ?_
          refine W.widen (k := 0) (n := 0) (Nat.le_of_ble_eq_true rfl) (Nat.le_of_ble_eq_true rfl) ?_
          exact W.zret (v := 0) hx hb hr rfl (fun t ht hW => ⟨⟨0, (), rfl, Or.inr (⟨rfl, (q_c_X7_isOnPaper_3 c_1 c_2 c_3 c_4)⟩), trivial⟩, hS.F ht⟩) hS.2.2 dX7_isOnPaper_25
        · refine lv_iconst (v := 1) hx hb dX7_isOnPaper_20 (by decide) ?_
          refine lv_goto (tgt := 25) hx hb dX7_isOnPaper_21 (by decide) ?_
          refine W.widen (k := 0) (n := 0) (Nat.le_of_ble_eq_true rfl) (Nat.le_of_ble_eq_true rfl) ?_
          exact W.zret (v := 1) hx hb hr rfl (fun t ht hW => ⟨⟨1, (), rfl, Or.inl (⟨rfl, (q_c_X7_isOnPaper_4 c_1 c_2 c_3 c_4), (q_c_X7_isOnPaper_5 c_1 c_2 c_3 c_4)⟩), trivial⟩, hS.F ht⟩) hS.2.2 dX7_isOnPaper_25
def v_c_X7_isGrip : List Cond := .code yX7_isGrip cX7_isGrip 1 (some .boolean) :: ([] ++ (([] : List Cond)))
set_option maxRecDepth 20000 in
theorem i_c_X7_isGrip : ∀ w ∈ v_c_X7_isGrip, w ∈ lw_tbl := List.forall_mem_cons.mpr ⟨List.mem_of_getElem? (i := 668) (by decide +kernel), List.forall_mem_append.mpr ⟨fun _ h => absurd h List.not_mem_nil, fun _ h => absurd h List.not_mem_nil⟩⟩
theorem q_c_X7_isGrip_0 {p0 : Int32} (c_1 : p0 < (0 : Int32)) : ¬ fz_in p0 0 10 := by
  first | assumption | (simp_all [fz_in, fz_v]; done) | (simp only [fz_in, fz_v] at *; grind)
theorem q_c_X7_isGrip_1 {p0 : Int32} (c_1 : ¬ p0 < (0 : Int32)) (c_2 : (10 : Int32) < p0) : ¬ fz_in p0 0 10 := by
  first | assumption | (simp_all [fz_in, fz_v]; done) | (simp only [fz_in, fz_v] at *; grind)
theorem q_c_X7_isGrip_2 {p0 : Int32} (c_1 : ¬ p0 < (0 : Int32)) (c_2 : ¬ (10 : Int32) < p0) : fz_in p0 0 10 := by
  first | assumption | (simp_all [fz_in, fz_v]; done) | (simp only [fz_in, fz_v] at *; grind)
set_option maxHeartbeats 4000000 in
set_option maxRecDepth 100000 in
theorem c_X7_isGrip (l : Launch) (dC : Nat → ClassId) (dI : Nat → Nat → Nat) (e0 : Nat) (p0 : Int32) (sz : Nat) : Met l yX7_isGrip v_c_X7_isGrip ({ frames := 0, cells := 0, slots := 0, locals := 0 }) (fz_P (dC, dI) e0 [] [] sz (fun q : Nat => sz ≤ q) [.int p0]) (va_Qi (fun (r : Int32) (u : Unit) => (r = 1 ∧ fz_in p0 0 10) ∨ (r = 0 ∧ ¬ fz_in p0 0 10)) (fun (u : Unit) (t : State) => True) (fun q : Nat => sz ≤ q)) 0 0 (fun q : Nat => sz ≤ q) := by
  refine Met.ofW (cc := cX7_isGrip) (maxL := 1) (ret := (some .boolean)) (by decide) rfl ?_
  intro p e s m args below meth c s₁ B hml hv
  obtain ⟨rfl, hsz, hP, hK, hD0, hAm⟩ := hv
  have hx := B.exec
  have hb := B.bytes
  have hr := B.returns
  have hts := atoms_spec (ws := v_c_X7_isGrip) B.pre
  have hown : s.vm.findClass RX7 = some m.cls := findClass_of_methodNamed B.named
  have hlocks := B.notSynchronized
  subst hsz
  have hD := hD0
  generalize hAe : (fun q : Nat => s.heap.size ≤ q) = A at hAm ⊢
  have hA : ∀ q : Nat, s.heap.size ≤ q → A q := fun q h => by rw [← hAe]; exact h
  have hS : va_S A s.heap s.heap [] := va_S.rf
  have hP : va_P (dC, dI) vwCl [] s.heap := hP
  have hl := lv_entry ([.int p0]) (n := 1) (Nat.le_of_ble_eq_true rfl)
  rw [lg_entry_eq]
  generalize (lg_sl ([.int p0]) ++ List.replicate (1 - (lg_sl ([.int p0])).length) Slot.unset).toArray = ls at hl ⊢
  have hl : lv_has ls 1 [(0, .int p0)] := hl
  refine lv_iload_n hx hb dX7_isGrip_0 rfl (lv_at hl 0 rfl) ?_
  refine lv_if_lt (tgt := 14) hx hb dX7_isGrip_1 (by decide) (fun c_1 => ?_) (fun c_1 => ?_)
  · refine lv_iconst (v := 0) hx hb dX7_isGrip_14 (by decide) ?_
    refine W.widen (k := 0) (n := 0) (Nat.le_of_ble_eq_true rfl) (Nat.le_of_ble_eq_true rfl) ?_
    exact W.zret (v := 0) hx hb hr rfl (fun t ht hW => ⟨⟨0, (), rfl, Or.inr (⟨rfl, (q_c_X7_isGrip_0 c_1)⟩), trivial⟩, hS.F ht⟩) hS.2.2 dX7_isGrip_15
  · refine lv_iload_n hx hb dX7_isGrip_4 rfl (lv_at hl 0 rfl) ?_
    refine lv_bipush (v := 10) hx hb dX7_isGrip_5 (by decide) ?_
    refine lv_icmp_gt (tgt := 14) hx hb dX7_isGrip_7 (by decide) (fun c_2 => ?_) (fun c_2 => ?_)
    · refine lv_iconst (v := 0) hx hb dX7_isGrip_14 (by decide) ?_
      refine W.widen (k := 0) (n := 0) (Nat.le_of_ble_eq_true rfl) (Nat.le_of_ble_eq_true rfl) ?_
      exact W.zret (v := 0) hx hb hr rfl (fun t ht hW => ⟨⟨0, (), rfl, Or.inr (⟨rfl, (q_c_X7_isGrip_1 c_1 c_2)⟩), trivial⟩, hS.F ht⟩) hS.2.2 dX7_isGrip_15
    · refine lv_iconst (v := 1) hx hb dX7_isGrip_10 (by decide) ?_
      refine lv_goto (tgt := 15) hx hb dX7_isGrip_11 (by decide) ?_
      refine W.widen (k := 0) (n := 0) (Nat.le_of_ble_eq_true rfl) (Nat.le_of_ble_eq_true rfl) ?_
      exact W.zret (v := 1) hx hb hr rfl (fun t ht hW => ⟨⟨1, (), rfl, Or.inl (⟨rfl, (q_c_X7_isGrip_2 c_1 c_2)⟩), trivial⟩, hS.F ht⟩) hS.2.2 dX7_isGrip_15
def v_c_X7_isBetween : List Cond := .code yX7_isBetween cX7_isBetween 3 (some .boolean) :: ([] ++ (([] : List Cond)))
set_option maxRecDepth 20000 in
theorem i_c_X7_isBetween : ∀ w ∈ v_c_X7_isBetween, w ∈ lw_tbl := List.forall_mem_cons.mpr ⟨List.mem_of_getElem? (i := 722) (by decide +kernel), List.forall_mem_append.mpr ⟨fun _ h => absurd h List.not_mem_nil, fun _ h => absurd h List.not_mem_nil⟩⟩
theorem q_c_X7_isBetween_0 {p0 p1 p2 : Int32} (c_1 : p0 < p1) : ¬ fz_in p0 p1 p2 := by
  first | assumption | (simp_all [fz_in, fz_v]; done) | (simp only [fz_in, fz_v] at *; grind)
theorem q_c_X7_isBetween_1 {p0 p1 p2 : Int32} (c_1 : ¬ p0 < p1) (c_2 : p2 < p0) : ¬ fz_in p0 p1 p2 := by
  first | assumption | (simp_all [fz_in, fz_v]; done) | (simp only [fz_in, fz_v] at *; grind)
theorem q_c_X7_isBetween_2 {p0 p1 p2 : Int32} (c_1 : ¬ p0 < p1) (c_2 : ¬ p2 < p0) : fz_in p0 p1 p2 := by
  first | assumption | (simp_all [fz_in, fz_v]; done) | (simp only [fz_in, fz_v] at *; grind)
set_option maxHeartbeats 4000000 in
set_option maxRecDepth 100000 in
theorem c_X7_isBetween (l : Launch) (dC : Nat → ClassId) (dI : Nat → Nat → Nat) (e0 : Nat) (p0 p1 p2 : Int32) (sz : Nat) : Met l yX7_isBetween v_c_X7_isBetween ({ frames := 0, cells := 0, slots := 0, locals := 0 }) (fz_P (dC, dI) e0 [] [] sz (fun q : Nat => sz ≤ q) [.int p0, .int p1, .int p2]) (va_Qi (fun (r : Int32) (u : Unit) => (r = 1 ∧ fz_in p0 p1 p2) ∨ (r = 0 ∧ ¬ fz_in p0 p1 p2)) (fun (u : Unit) (t : State) => True) (fun q : Nat => sz ≤ q)) 0 0 (fun q : Nat => sz ≤ q) := by
  refine Met.ofW (cc := cX7_isBetween) (maxL := 3) (ret := (some .boolean)) (by decide) rfl ?_
  intro p e s m args below meth c s₁ B hml hv
  obtain ⟨rfl, hsz, hP, hK, hD0, hAm⟩ := hv
  have hx := B.exec
  have hb := B.bytes
  have hr := B.returns
  have hts := atoms_spec (ws := v_c_X7_isBetween) B.pre
  have hown : s.vm.findClass RX7 = some m.cls := findClass_of_methodNamed B.named
  have hlocks := B.notSynchronized
  subst hsz
  have hD := hD0
  generalize hAe : (fun q : Nat => s.heap.size ≤ q) = A at hAm ⊢
  have hA : ∀ q : Nat, s.heap.size ≤ q → A q := fun q h => by rw [← hAe]; exact h
  have hS : va_S A s.heap s.heap [] := va_S.rf
  have hP : va_P (dC, dI) vwCl [] s.heap := hP
  have hl := lv_entry ([.int p0, .int p1, .int p2]) (n := 3) (Nat.le_of_ble_eq_true rfl)
  rw [lg_entry_eq]
  generalize (lg_sl ([.int p0, .int p1, .int p2]) ++ List.replicate (3 - (lg_sl ([.int p0, .int p1, .int p2])).length) Slot.unset).toArray = ls at hl ⊢
  have hl : lv_has ls 3 [(0, .int p0), (1, .int p1), (2, .int p2)] := hl
  refine lv_iload_n hx hb dX7_isBetween_0 rfl (lv_at hl 0 rfl) ?_
  refine lv_iload_n hx hb dX7_isBetween_1 rfl (lv_at hl 1 rfl) ?_
  refine lv_icmp_lt (tgt := 14) hx hb dX7_isBetween_2 (by decide) (fun c_1 => ?_) (fun c_1 => ?_)
  · refine lv_iconst (v := 0) hx hb dX7_isBetween_14 (by decide) ?_
    refine W.widen (k := 0) (n := 0) (Nat.le_of_ble_eq_true rfl) (Nat.le_of_ble_eq_true rfl) ?_
    exact W.zret (v := 0) hx hb hr rfl (fun t ht hW => ⟨⟨0, (), rfl, Or.inr (⟨rfl, (q_c_X7_isBetween_0 c_1)⟩), trivial⟩, hS.F ht⟩) hS.2.2 dX7_isBetween_15
  · refine lv_iload_n hx hb dX7_isBetween_5 rfl (lv_at hl 0 rfl) ?_
    refine lv_iload_n hx hb dX7_isBetween_6 rfl (lv_at hl 2 rfl) ?_
    refine lv_icmp_gt (tgt := 14) hx hb dX7_isBetween_7 (by decide) (fun c_2 => ?_) (fun c_2 => ?_)
    · refine lv_iconst (v := 0) hx hb dX7_isBetween_14 (by decide) ?_
      refine W.widen (k := 0) (n := 0) (Nat.le_of_ble_eq_true rfl) (Nat.le_of_ble_eq_true rfl) ?_
      exact W.zret (v := 0) hx hb hr rfl (fun t ht hW => ⟨⟨0, (), rfl, Or.inr (⟨rfl, (q_c_X7_isBetween_1 c_1 c_2)⟩), trivial⟩, hS.F ht⟩) hS.2.2 dX7_isBetween_15
    · refine lv_iconst (v := 1) hx hb dX7_isBetween_10 (by decide) ?_
      refine lv_goto (tgt := 15) hx hb dX7_isBetween_11 (by decide) ?_
      refine W.widen (k := 0) (n := 0) (Nat.le_of_ble_eq_true rfl) (Nat.le_of_ble_eq_true rfl) ?_
      exact W.zret (v := 1) hx hb hr rfl (fun t ht hW => ⟨⟨1, (), rfl, Or.inl (⟨rfl, (q_c_X7_isBetween_2 c_1 c_2)⟩), trivial⟩, hS.F ht⟩) hS.2.2 dX7_isBetween_15
def v_c_X7_filledPlaces : List Cond := .code yX7_filledPlaces cX7_filledPlaces 3 (some .int) :: ([.fieldLink RX7 41 "VoussoirYard" "stoneOfPlace" "[I"] ++ (wsX70))
set_option maxRecDepth 20000 in
theorem i_c_X7_filledPlaces : ∀ w ∈ v_c_X7_filledPlaces, w ∈ lw_tbl := List.forall_mem_cons.mpr ⟨List.mem_of_getElem? (i := 290) (by decide +kernel), List.forall_mem_append.mpr ⟨List.forall_mem_cons.mpr ⟨List.mem_of_getElem? (i := 224) (by decide +kernel), fun _ h => absurd h List.not_mem_nil⟩, inX7⟩⟩
set_option maxHeartbeats 4000000 in
set_option maxRecDepth 100000 in
theorem c_X7_filledPlaces (l : Launch) (dC : Nat → ClassId) (dI : Nat → Nat → Nat) (e0 : Nat) (h0 hd hse hki hma hst hsp hlp htl : Nat) (cI : ClassId) (fsp : Nat → Int32) (sz : Nat) (hspf : ∀ j : Nat, j < 8 → fsp j = -1) : Met l yX7_filledPlaces v_c_X7_filledPlaces ({ frames := 0, cells := 0, slots := 0, locals := 0 }) (fz_P (dC, dI) e0 [(h0, .inr (12, [.ref hd, .ref hse, .ref hki, .ref hma, .ref hst, .ref hsp, .ref hlp, .ref htl, .int 0, .int 0, .int 0, .int 0, .int 0, .int 0, .int 0, .long ((0 : Int32).toInt64)])), (hsp, .inl (cI, 8, .inl fsp))] [(cI, .int)] sz (fun q : Nat => sz ≤ q) [.ref h0]) (va_Qi (fun (r : Int32) (u : Unit) => r = 0) (fun (u : Unit) (t : State) => True) (fun q : Nat => sz ≤ q)) 0 0 (fun q : Nat => sz ≤ q) := by
  refine Met.ofW (cc := cX7_filledPlaces) (maxL := 3) (ret := (some .int)) (by decide) rfl ?_
  intro p e s m args below meth c s₁ B hml hv
  obtain ⟨rfl, hsz, hP, hK, hD0, hAm⟩ := hv
  have hx := B.exec
  have hb := B.bytes
  have hr := B.returns
  have hts := atoms_spec (ws := v_c_X7_filledPlaces) B.pre
  have hown : s.vm.findClass RX7 = some m.cls := findClass_of_methodNamed B.named
  have hlocks := B.notSynchronized
  subst hsz
  have hD := hD0
  generalize hAe : (fun q : Nat => s.heap.size ≤ q) = A at hAm ⊢
  have hA : ∀ q : Nat, s.heap.size ≤ q → A q := fun q h => by rw [← hAe]; exact h
  have hS : va_S A s.heap s.heap [] := va_S.rf
  have hP : va_P (dC, dI) vwCl [(h0, .inr (12, [.ref hd, .ref hse, .ref hki, .ref hma, .ref hst, .ref hsp, .ref hlp, .ref htl, .int 0, .int 0, .int 0, .int 0, .int 0, .int 0, .int 0, .long ((0 : Int32).toInt64)])), (hsp, .inl (cI, 8, .inl fsp))] s.heap := hP
  have hl := lv_entry ([.ref h0]) (n := 3) (Nat.le_of_ble_eq_true rfl)
  rw [lg_entry_eq]
  generalize (lg_sl ([.ref h0]) ++ List.replicate (3 - (lg_sl ([.ref h0])).length) Slot.unset).toArray = ls at hl ⊢
  have hl : lv_has ls 3 [(0, .ref h0)] := hl
  refine lv_iconst (v := 0) hx hb dX7_filledPlaces_0 (by decide) ?_
  refine lv_istore_n (lv' := [(1, .int 0), (0, .ref h0)]) hx hb dX7_filledPlaces_1 rfl hl (by decide) rfl (fun ls hl => ?_)
  refine lv_iconst (v := 0) hx hb dX7_filledPlaces_2 (by decide) ?_
  refine lv_istore_n (lv' := [(2, .int 0), (1, .int 0), (0, .ref h0)]) hx hb dX7_filledPlaces_3 rfl hl (by decide) rfl (fun ls hl => ?_)
  refine lv_iload_n hx hb dX7_filledPlaces_4 rfl (lv_at hl 0 rfl) ?_
  refine lv_aload_n hx hb dX7_filledPlaces_5 rfl (lv_at hl 2 rfl) ?_
  refine va_get (D := (dC, dI)) (ci := 12) (v := .ref hsp) (C := RX7) (T := TX7) (N := 16) hx hb hts (fun _ h9 => List.mem_cons_of_mem _ (List.mem_append_right _ (h9))) hown hK hP 0 rfl rfl 5 (by decide) (hts _ (List.mem_cons_of_mem _ (List.mem_append_left _ (List.mem_of_getElem? (i := 0) rfl)))) (fun _ h9 => h9) rfl dX7_filledPlaces_6 ?_
  refine va_alen hx hb hK hP 1 0 rfl rfl (v := 8) rfl dX7_filledPlaces_9 ?_
  refine lv_icmp_ge (tgt := 32) hx hb dX7_filledPlaces_10 (by decide) (fun c_9 => absurd c_9 (by decide)) (fun _ => ?_)
  refine lv_aload_n hx hb dX7_filledPlaces_13 rfl (lv_at hl 2 rfl) ?_
  refine va_get (D := (dC, dI)) (ci := 12) (v := .ref hsp) (C := RX7) (T := TX7) (N := 16) hx hb hts (fun _ h9 => List.mem_cons_of_mem _ (List.mem_append_right _ (h9))) hown hK hP 0 rfl rfl 5 (by decide) (hts _ (List.mem_cons_of_mem _ (List.mem_append_left _ (List.mem_of_getElem? (i := 0) rfl)))) (fun _ h9 => h9) rfl dX7_filledPlaces_14 ?_
  refine lv_iload_n hx hb dX7_filledPlaces_17 rfl (lv_at hl 0 rfl) ?_
  refine va_iald hx hb hK hP 1 0 rfl rfl (fz_il (by decide)) dX7_filledPlaces_18 ?_
  refine lv_topi (fun z_9 e_9 => ?_)
  obtain rfl : (-1) = z_9 := (e_9.trans (hspf _ (by decide))).symm
  refine lv_iconst (v := (-1)) hx hb dX7_filledPlaces_19 (by decide) ?_
  refine lv_icmp_eq (tgt := 26) hx hb dX7_filledPlaces_20 (by decide) (fun _ => ?_) (fun c_9 => absurd (by decide) c_9)
  refine lv_iinc (v := 1) (lv' := [(2, .int 1), (1, .int 0), (0, .ref h0)]) hx hb dX7_filledPlaces_26 hl (k := 0) rfl (by decide) (by decide) rfl (fun ls hl => ?_)
  refine lv_goto (tgt := 4) hx hb dX7_filledPlaces_29 (by decide) ?_
  refine lv_iload_n hx hb dX7_filledPlaces_4 rfl (lv_at hl 0 rfl) ?_
  refine lv_aload_n hx hb dX7_filledPlaces_5 rfl (lv_at hl 2 rfl) ?_
  refine va_get (D := (dC, dI)) (ci := 12) (v := .ref hsp) (C := RX7) (T := TX7) (N := 16) hx hb hts (fun _ h9 => List.mem_cons_of_mem _ (List.mem_append_right _ (h9))) hown hK hP 0 rfl rfl 5 (by decide) (hts _ (List.mem_cons_of_mem _ (List.mem_append_left _ (List.mem_of_getElem? (i := 0) rfl)))) (fun _ h9 => h9) rfl dX7_filledPlaces_6 ?_
  refine va_alen hx hb hK hP 1 0 rfl rfl (v := 8) rfl dX7_filledPlaces_9 ?_
  refine lv_icmp_ge (tgt := 32) hx hb dX7_filledPlaces_10 (by decide) (fun c_9 => absurd c_9 (by decide)) (fun _ => ?_)
  refine lv_aload_n hx hb dX7_filledPlaces_13 rfl (lv_at hl 2 rfl) ?_
  refine va_get (D := (dC, dI)) (ci := 12) (v := .ref hsp) (C := RX7) (T := TX7) (N := 16) hx hb hts (fun _ h9 => List.mem_cons_of_mem _ (List.mem_append_right _ (h9))) hown hK hP 0 rfl rfl 5 (by decide) (hts _ (List.mem_cons_of_mem _ (List.mem_append_left _ (List.mem_of_getElem? (i := 0) rfl)))) (fun _ h9 => h9) rfl dX7_filledPlaces_14 ?_
  refine lv_iload_n hx hb dX7_filledPlaces_17 rfl (lv_at hl 0 rfl) ?_
  refine va_iald hx hb hK hP 1 0 rfl rfl (fz_il (by decide)) dX7_filledPlaces_18 ?_
  refine lv_topi (fun z_9 e_9 => ?_)
  obtain rfl : (-1) = z_9 := (e_9.trans (hspf _ (by decide))).symm
  refine lv_iconst (v := (-1)) hx hb dX7_filledPlaces_19 (by decide) ?_
  refine lv_icmp_eq (tgt := 26) hx hb dX7_filledPlaces_20 (by decide) (fun _ => ?_) (fun c_9 => absurd (by decide) c_9)
  refine lv_iinc (v := 2) (lv' := [(2, .int 2), (1, .int 0), (0, .ref h0)]) hx hb dX7_filledPlaces_26 hl (k := 0) rfl (by decide) (by decide) rfl (fun ls hl => ?_)
  refine lv_goto (tgt := 4) hx hb dX7_filledPlaces_29 (by decide) ?_
  refine lv_iload_n hx hb dX7_filledPlaces_4 rfl (lv_at hl 0 rfl) ?_
  refine lv_aload_n hx hb dX7_filledPlaces_5 rfl (lv_at hl 2 rfl) ?_
  refine va_get (D := (dC, dI)) (ci := 12) (v := .ref hsp) (C := RX7) (T := TX7) (N := 16) hx hb hts (fun _ h9 => List.mem_cons_of_mem _ (List.mem_append_right _ (h9))) hown hK hP 0 rfl rfl 5 (by decide) (hts _ (List.mem_cons_of_mem _ (List.mem_append_left _ (List.mem_of_getElem? (i := 0) rfl)))) (fun _ h9 => h9) rfl dX7_filledPlaces_6 ?_
  refine va_alen hx hb hK hP 1 0 rfl rfl (v := 8) rfl dX7_filledPlaces_9 ?_
  refine lv_icmp_ge (tgt := 32) hx hb dX7_filledPlaces_10 (by decide) (fun c_9 => absurd c_9 (by decide)) (fun _ => ?_)
  refine lv_aload_n hx hb dX7_filledPlaces_13 rfl (lv_at hl 2 rfl) ?_
  refine va_get (D := (dC, dI)) (ci := 12) (v := .ref hsp) (C := RX7) (T := TX7) (N := 16) hx hb hts (fun _ h9 => List.mem_cons_of_mem _ (List.mem_append_right _ (h9))) hown hK hP 0 rfl rfl 5 (by decide) (hts _ (List.mem_cons_of_mem _ (List.mem_append_left _ (List.mem_of_getElem? (i := 0) rfl)))) (fun _ h9 => h9) rfl dX7_filledPlaces_14 ?_
  refine lv_iload_n hx hb dX7_filledPlaces_17 rfl (lv_at hl 0 rfl) ?_
  refine va_iald hx hb hK hP 1 0 rfl rfl (fz_il (by decide)) dX7_filledPlaces_18 ?_
  refine lv_topi (fun z_9 e_9 => ?_)
  obtain rfl : (-1) = z_9 := (e_9.trans (hspf _ (by decide))).symm
  refine lv_iconst (v := (-1)) hx hb dX7_filledPlaces_19 (by decide) ?_
  refine lv_icmp_eq (tgt := 26) hx hb dX7_filledPlaces_20 (by decide) (fun _ => ?_) (fun c_9 => absurd (by decide) c_9)
  refine lv_iinc (v := 3) (lv' := [(2, .int 3), (1, .int 0), (0, .ref h0)]) hx hb dX7_filledPlaces_26 hl (k := 0) rfl (by decide) (by decide) rfl (fun ls hl => ?_)
  refine lv_goto (tgt := 4) hx hb dX7_filledPlaces_29 (by decide) ?_
  refine lv_iload_n hx hb dX7_filledPlaces_4 rfl (lv_at hl 0 rfl) ?_
  refine lv_aload_n hx hb dX7_filledPlaces_5 rfl (lv_at hl 2 rfl) ?_
  refine va_get (D := (dC, dI)) (ci := 12) (v := .ref hsp) (C := RX7) (T := TX7) (N := 16) hx hb hts (fun _ h9 => List.mem_cons_of_mem _ (List.mem_append_right _ (h9))) hown hK hP 0 rfl rfl 5 (by decide) (hts _ (List.mem_cons_of_mem _ (List.mem_append_left _ (List.mem_of_getElem? (i := 0) rfl)))) (fun _ h9 => h9) rfl dX7_filledPlaces_6 ?_
  refine va_alen hx hb hK hP 1 0 rfl rfl (v := 8) rfl dX7_filledPlaces_9 ?_
  refine lv_icmp_ge (tgt := 32) hx hb dX7_filledPlaces_10 (by decide) (fun c_9 => absurd c_9 (by decide)) (fun _ => ?_)
  refine lv_aload_n hx hb dX7_filledPlaces_13 rfl (lv_at hl 2 rfl) ?_
  refine va_get (D := (dC, dI)) (ci := 12) (v := .ref hsp) (C := RX7) (T := TX7) (N := 16) hx hb hts (fun _ h9 => List.mem_cons_of_mem _ (List.mem_append_right _ (h9))) hown hK hP 0 rfl rfl 5 (by decide) (hts _ (List.mem_cons_of_mem _ (List.mem_append_left _ (List.mem_of_getElem? (i := 0) rfl)))) (fun _ h9 => h9) rfl dX7_filledPlaces_14 ?_
  refine lv_iload_n hx hb dX7_filledPlaces_17 rfl (lv_at hl 0 rfl) ?_
  refine va_iald hx hb hK hP 1 0 rfl rfl (fz_il (by decide)) dX7_filledPlaces_18 ?_
  refine lv_topi (fun z_9 e_9 => ?_)
  obtain rfl : (-1) = z_9 := (e_9.trans (hspf _ (by decide))).symm
  refine lv_iconst (v := (-1)) hx hb dX7_filledPlaces_19 (by decide) ?_
  refine lv_icmp_eq (tgt := 26) hx hb dX7_filledPlaces_20 (by decide) (fun _ => ?_) (fun c_9 => absurd (by decide) c_9)
  refine lv_iinc (v := 4) (lv' := [(2, .int 4), (1, .int 0), (0, .ref h0)]) hx hb dX7_filledPlaces_26 hl (k := 0) rfl (by decide) (by decide) rfl (fun ls hl => ?_)
  refine lv_goto (tgt := 4) hx hb dX7_filledPlaces_29 (by decide) ?_
  refine lv_iload_n hx hb dX7_filledPlaces_4 rfl (lv_at hl 0 rfl) ?_
  refine lv_aload_n hx hb dX7_filledPlaces_5 rfl (lv_at hl 2 rfl) ?_
  refine va_get (D := (dC, dI)) (ci := 12) (v := .ref hsp) (C := RX7) (T := TX7) (N := 16) hx hb hts (fun _ h9 => List.mem_cons_of_mem _ (List.mem_append_right _ (h9))) hown hK hP 0 rfl rfl 5 (by decide) (hts _ (List.mem_cons_of_mem _ (List.mem_append_left _ (List.mem_of_getElem? (i := 0) rfl)))) (fun _ h9 => h9) rfl dX7_filledPlaces_6 ?_
  refine va_alen hx hb hK hP 1 0 rfl rfl (v := 8) rfl dX7_filledPlaces_9 ?_
  refine lv_icmp_ge (tgt := 32) hx hb dX7_filledPlaces_10 (by decide) (fun c_9 => absurd c_9 (by decide)) (fun _ => ?_)
  refine lv_aload_n hx hb dX7_filledPlaces_13 rfl (lv_at hl 2 rfl) ?_
  refine va_get (D := (dC, dI)) (ci := 12) (v := .ref hsp) (C := RX7) (T := TX7) (N := 16) hx hb hts (fun _ h9 => List.mem_cons_of_mem _ (List.mem_append_right _ (h9))) hown hK hP 0 rfl rfl 5 (by decide) (hts _ (List.mem_cons_of_mem _ (List.mem_append_left _ (List.mem_of_getElem? (i := 0) rfl)))) (fun _ h9 => h9) rfl dX7_filledPlaces_14 ?_
  refine lv_iload_n hx hb dX7_filledPlaces_17 rfl (lv_at hl 0 rfl) ?_
  refine va_iald hx hb hK hP 1 0 rfl rfl (fz_il (by decide)) dX7_filledPlaces_18 ?_
  refine lv_topi (fun z_9 e_9 => ?_)
  obtain rfl : (-1) = z_9 := (e_9.trans (hspf _ (by decide))).symm
  refine lv_iconst (v := (-1)) hx hb dX7_filledPlaces_19 (by decide) ?_
  refine lv_icmp_eq (tgt := 26) hx hb dX7_filledPlaces_20 (by decide) (fun _ => ?_) (fun c_9 => absurd (by decide) c_9)
  refine lv_iinc (v := 5) (lv' := [(2, .int 5), (1, .int 0), (0, .ref h0)]) hx hb dX7_filledPlaces_26 hl (k := 0) rfl (by decide) (by decide) rfl (fun ls hl => ?_)
  refine lv_goto (tgt := 4) hx hb dX7_filledPlaces_29 (by decide) ?_
  refine lv_iload_n hx hb dX7_filledPlaces_4 rfl (lv_at hl 0 rfl) ?_
  refine lv_aload_n hx hb dX7_filledPlaces_5 rfl (lv_at hl 2 rfl) ?_
  refine va_get (D := (dC, dI)) (ci := 12) (v := .ref hsp) (C := RX7) (T := TX7) (N := 16) hx hb hts (fun _ h9 => List.mem_cons_of_mem _ (List.mem_append_right _ (h9))) hown hK hP 0 rfl rfl 5 (by decide) (hts _ (List.mem_cons_of_mem _ (List.mem_append_left _ (List.mem_of_getElem? (i := 0) rfl)))) (fun _ h9 => h9) rfl dX7_filledPlaces_6 ?_
  refine va_alen hx hb hK hP 1 0 rfl rfl (v := 8) rfl dX7_filledPlaces_9 ?_
  refine lv_icmp_ge (tgt := 32) hx hb dX7_filledPlaces_10 (by decide) (fun c_9 => absurd c_9 (by decide)) (fun _ => ?_)
  refine lv_aload_n hx hb dX7_filledPlaces_13 rfl (lv_at hl 2 rfl) ?_
  refine va_get (D := (dC, dI)) (ci := 12) (v := .ref hsp) (C := RX7) (T := TX7) (N := 16) hx hb hts (fun _ h9 => List.mem_cons_of_mem _ (List.mem_append_right _ (h9))) hown hK hP 0 rfl rfl 5 (by decide) (hts _ (List.mem_cons_of_mem _ (List.mem_append_left _ (List.mem_of_getElem? (i := 0) rfl)))) (fun _ h9 => h9) rfl dX7_filledPlaces_14 ?_
  refine lv_iload_n hx hb dX7_filledPlaces_17 rfl (lv_at hl 0 rfl) ?_
  refine va_iald hx hb hK hP 1 0 rfl rfl (fz_il (by decide)) dX7_filledPlaces_18 ?_
  refine lv_topi (fun z_9 e_9 => ?_)
  obtain rfl : (-1) = z_9 := (e_9.trans (hspf _ (by decide))).symm
  refine lv_iconst (v := (-1)) hx hb dX7_filledPlaces_19 (by decide) ?_
  refine lv_icmp_eq (tgt := 26) hx hb dX7_filledPlaces_20 (by decide) (fun _ => ?_) (fun c_9 => absurd (by decide) c_9)
  refine lv_iinc (v := 6) (lv' := [(2, .int 6), (1, .int 0), (0, .ref h0)]) hx hb dX7_filledPlaces_26 hl (k := 0) rfl (by decide) (by decide) rfl (fun ls hl => ?_)
  refine lv_goto (tgt := 4) hx hb dX7_filledPlaces_29 (by decide) ?_
  refine lv_iload_n hx hb dX7_filledPlaces_4 rfl (lv_at hl 0 rfl) ?_
  refine lv_aload_n hx hb dX7_filledPlaces_5 rfl (lv_at hl 2 rfl) ?_
  refine va_get (D := (dC, dI)) (ci := 12) (v := .ref hsp) (C := RX7) (T := TX7) (N := 16) hx hb hts (fun _ h9 => List.mem_cons_of_mem _ (List.mem_append_right _ (h9))) hown hK hP 0 rfl rfl 5 (by decide) (hts _ (List.mem_cons_of_mem _ (List.mem_append_left _ (List.mem_of_getElem? (i := 0) rfl)))) (fun _ h9 => h9) rfl dX7_filledPlaces_6 ?_
  refine va_alen hx hb hK hP 1 0 rfl rfl (v := 8) rfl dX7_filledPlaces_9 ?_
  refine lv_icmp_ge (tgt := 32) hx hb dX7_filledPlaces_10 (by decide) (fun c_9 => absurd c_9 (by decide)) (fun _ => ?_)
  refine lv_aload_n hx hb dX7_filledPlaces_13 rfl (lv_at hl 2 rfl) ?_
  refine va_get (D := (dC, dI)) (ci := 12) (v := .ref hsp) (C := RX7) (T := TX7) (N := 16) hx hb hts (fun _ h9 => List.mem_cons_of_mem _ (List.mem_append_right _ (h9))) hown hK hP 0 rfl rfl 5 (by decide) (hts _ (List.mem_cons_of_mem _ (List.mem_append_left _ (List.mem_of_getElem? (i := 0) rfl)))) (fun _ h9 => h9) rfl dX7_filledPlaces_14 ?_
  refine lv_iload_n hx hb dX7_filledPlaces_17 rfl (lv_at hl 0 rfl) ?_
  refine va_iald hx hb hK hP 1 0 rfl rfl (fz_il (by decide)) dX7_filledPlaces_18 ?_
  refine lv_topi (fun z_9 e_9 => ?_)
  obtain rfl : (-1) = z_9 := (e_9.trans (hspf _ (by decide))).symm
  refine lv_iconst (v := (-1)) hx hb dX7_filledPlaces_19 (by decide) ?_
  refine lv_icmp_eq (tgt := 26) hx hb dX7_filledPlaces_20 (by decide) (fun _ => ?_) (fun c_9 => absurd (by decide) c_9)
  refine lv_iinc (v := 7) (lv' := [(2, .int 7), (1, .int 0), (0, .ref h0)]) hx hb dX7_filledPlaces_26 hl (k := 0) rfl (by decide) (by decide) rfl (fun ls hl => ?_)
  refine lv_goto (tgt := 4) hx hb dX7_filledPlaces_29 (by decide) ?_
  refine lv_iload_n hx hb dX7_filledPlaces_4 rfl (lv_at hl 0 rfl) ?_
  refine lv_aload_n hx hb dX7_filledPlaces_5 rfl (lv_at hl 2 rfl) ?_
  refine va_get (D := (dC, dI)) (ci := 12) (v := .ref hsp) (C := RX7) (T := TX7) (N := 16) hx hb hts (fun _ h9 => List.mem_cons_of_mem _ (List.mem_append_right _ (h9))) hown hK hP 0 rfl rfl 5 (by decide) (hts _ (List.mem_cons_of_mem _ (List.mem_append_left _ (List.mem_of_getElem? (i := 0) rfl)))) (fun _ h9 => h9) rfl dX7_filledPlaces_6 ?_
  refine va_alen hx hb hK hP 1 0 rfl rfl (v := 8) rfl dX7_filledPlaces_9 ?_
  refine lv_icmp_ge (tgt := 32) hx hb dX7_filledPlaces_10 (by decide) (fun c_9 => absurd c_9 (by decide)) (fun _ => ?_)
  refine lv_aload_n hx hb dX7_filledPlaces_13 rfl (lv_at hl 2 rfl) ?_
  refine va_get (D := (dC, dI)) (ci := 12) (v := .ref hsp) (C := RX7) (T := TX7) (N := 16) hx hb hts (fun _ h9 => List.mem_cons_of_mem _ (List.mem_append_right _ (h9))) hown hK hP 0 rfl rfl 5 (by decide) (hts _ (List.mem_cons_of_mem _ (List.mem_append_left _ (List.mem_of_getElem? (i := 0) rfl)))) (fun _ h9 => h9) rfl dX7_filledPlaces_14 ?_
  refine lv_iload_n hx hb dX7_filledPlaces_17 rfl (lv_at hl 0 rfl) ?_
  refine va_iald hx hb hK hP 1 0 rfl rfl (fz_il (by decide)) dX7_filledPlaces_18 ?_
  refine lv_topi (fun z_9 e_9 => ?_)
  obtain rfl : (-1) = z_9 := (e_9.trans (hspf _ (by decide))).symm
  refine lv_iconst (v := (-1)) hx hb dX7_filledPlaces_19 (by decide) ?_
  refine lv_icmp_eq (tgt := 26) hx hb dX7_filledPlaces_20 (by decide) (fun _ => ?_) (fun c_9 => absurd (by decide) c_9)
  refine lv_iinc (v := 8) (lv' := [(2, .int 8), (1, .int 0), (0, .ref h0)]) hx hb dX7_filledPlaces_26 hl (k := 0) rfl (by decide) (by decide) rfl (fun ls hl => ?_)
  refine lv_goto (tgt := 4) hx hb dX7_filledPlaces_29 (by decide) ?_
  refine lv_iload_n hx hb dX7_filledPlaces_4 rfl (lv_at hl 0 rfl) ?_
  refine lv_aload_n hx hb dX7_filledPlaces_5 rfl (lv_at hl 2 rfl) ?_
  refine va_get (D := (dC, dI)) (ci := 12) (v := .ref hsp) (C := RX7) (T := TX7) (N := 16) hx hb hts (fun _ h9 => List.mem_cons_of_mem _ (List.mem_append_right _ (h9))) hown hK hP 0 rfl rfl 5 (by decide) (hts _ (List.mem_cons_of_mem _ (List.mem_append_left _ (List.mem_of_getElem? (i := 0) rfl)))) (fun _ h9 => h9) rfl dX7_filledPlaces_6 ?_
  refine va_alen hx hb hK hP 1 0 rfl rfl (v := 8) rfl dX7_filledPlaces_9 ?_
  refine lv_icmp_ge (tgt := 32) hx hb dX7_filledPlaces_10 (by decide) (fun _ => ?_) (fun c_9 => absurd (by decide) c_9)
  refine lv_iload_n hx hb dX7_filledPlaces_32 rfl (lv_at hl 1 rfl) ?_
  refine W.widen (k := 0) (n := 0) (Nat.le_of_ble_eq_true rfl) (Nat.le_of_ble_eq_true rfl) ?_
  exact W.iret (v := 0) hx hb hr (fun t ht hW => ⟨⟨0, (), rfl, rfl, trivial⟩, hS.F ht⟩) hS.2.2 dX7_filledPlaces_33
def v_c_X7_isWholeArchFilled : List Cond := .code yX7_isWholeArchFilled cX7_isWholeArchFilled 1 (some .boolean) :: ([.fieldLink RX7 10 "VoussoirYard" "drawing" "LVoussoirYard$Drawing;"] ++ (wsX70 ++ (wsV RX7 145 RX1 yX1_placeCount v_c_X1_placeCount)))
set_option maxRecDepth 20000 in
theorem i_c_X7_isWholeArchFilled : ∀ w ∈ v_c_X7_isWholeArchFilled, w ∈ lw_tbl := List.forall_mem_cons.mpr ⟨List.mem_of_getElem? (i := 286) (by decide +kernel), List.forall_mem_append.mpr ⟨List.forall_mem_cons.mpr ⟨List.mem_of_getElem? (i := 219) (by decide +kernel), fun _ h => absurd h List.not_mem_nil⟩, List.forall_mem_append.mpr ⟨inX7, (by unfold wsV; exact List.forall_mem_append.mpr ⟨List.forall_mem_cons.mpr ⟨List.mem_of_getElem? (i := 272) (by decide +kernel), List.forall_mem_cons.mpr ⟨List.mem_of_getElem? (i := 273) (by decide +kernel), List.forall_mem_cons.mpr ⟨List.mem_of_getElem? (i := 274) (by decide +kernel), List.forall_mem_cons.mpr ⟨List.mem_of_getElem? (i := 50) (by decide +kernel), fun _ h => absurd h List.not_mem_nil⟩⟩⟩⟩, i_c_X1_placeCount⟩)⟩⟩⟩
set_option maxHeartbeats 4000000 in
set_option maxRecDepth 100000 in
theorem c_X7_isWholeArchFilled (l : Launch) (dC : Nat → ClassId) (dI : Nat → Nat → Nat) (e0 : Nat) (h0 hd hse hki hma hst hsp hlp htl hj hpr hqd : Nat) (sz : Nat) : Met l yX7_isWholeArchFilled v_c_X7_isWholeArchFilled ({ frames := 2, cells := 0, slots := 0, locals := 50 }) (fz_P (dC, dI) e0 [(h0, .inr (12, [.ref hd, .ref hse, .ref hki, .ref hma, .ref hst, .ref hsp, .ref hlp, .ref htl, .int 0, .int 0, .int 0, .int 0, .int 0, .int 0, .int 0, .long ((0 : Int32).toInt64)])), (hd, .inr (6, [.ref hj, .ref hpr, .ref hqd, .int 0, .int 0, .int 1]))] [] sz (fun q : Nat => sz ≤ q) [.ref h0]) (va_Qi (fun (r : Int32) (u : Unit) => r = 0) (fun (u : Unit) (t : State) => True) (fun q : Nat => sz ≤ q)) 0 0 (fun q : Nat => sz ≤ q) := by
  refine Met.ofW (cc := cX7_isWholeArchFilled) (maxL := 1) (ret := (some .boolean)) (by decide) rfl ?_
  intro p e s m args below meth c s₁ B hml hv
  obtain ⟨rfl, hsz, hP, hK, hD0, hAm⟩ := hv
  have hx := B.exec
  have hb := B.bytes
  have hr := B.returns
  have hts := atoms_spec (ws := v_c_X7_isWholeArchFilled) B.pre
  have hown : s.vm.findClass RX7 = some m.cls := findClass_of_methodNamed B.named
  have hlocks := B.notSynchronized
  subst hsz
  have hD := hD0
  generalize hAe : (fun q : Nat => s.heap.size ≤ q) = A at hAm ⊢
  have hA : ∀ q : Nat, s.heap.size ≤ q → A q := fun q h => by rw [← hAe]; exact h
  have hS : va_S A s.heap s.heap [] := va_S.rf
  have hP : va_P (dC, dI) vwCl [(h0, .inr (12, [.ref hd, .ref hse, .ref hki, .ref hma, .ref hst, .ref hsp, .ref hlp, .ref htl, .int 0, .int 0, .int 0, .int 0, .int 0, .int 0, .int 0, .long ((0 : Int32).toInt64)])), (hd, .inr (6, [.ref hj, .ref hpr, .ref hqd, .int 0, .int 0, .int 1]))] s.heap := hP
  have hl := lv_entry ([.ref h0]) (n := 1) (Nat.le_of_ble_eq_true rfl)
  rw [lg_entry_eq]
  generalize (lg_sl ([.ref h0]) ++ List.replicate (1 - (lg_sl ([.ref h0])).length) Slot.unset).toArray = ls at hl ⊢
  have hl : lv_has ls 1 [(0, .ref h0)] := hl
  refine lv_aload_n hx hb dX7_isWholeArchFilled_0 rfl (lv_at hl 0 rfl) ?_
  refine va_get (D := (dC, dI)) (ci := 12) (v := .ref hd) (C := RX7) (T := TX7) (N := 16) hx hb hts (fun _ h9 => List.mem_cons_of_mem _ (List.mem_append_right _ (List.mem_append_left _ h9))) hown hK hP 0 rfl rfl 0 (by decide) (hts _ (List.mem_cons_of_mem _ (List.mem_append_left _ (List.mem_of_getElem? (i := 0) rfl)))) (fun _ h9 => h9) rfl dX7_isWholeArchFilled_1 ?_
  have hPc := hP.sub (ws' := [(hd, .inr (6, [.ref hj, .ref hpr, .ref hqd, .int 0, .int 0, .int 1]))]) [1] rfl
  have hDc := hD.sub (ws' := [(hd, .inr (6, [.ref hj, .ref hpr, .ref hqd, .int 0, .int 0, .int 1]))]) [1] (by decide) rfl
  have hKc := hK.sub (tys' := []) [] rfl
  have hFc : ∀ q : Nat, s.heap.size ≤ q → A q := fun q h => hA q (Nat.le_trans hS.1 h)
  refine va_calli (va_runV (As := []) (rest := []) ⟨hx, hb, hml, hown, hts⟩ (c_X1_placeCount l dC dI e0 hd hj hpr hqd s.heap.size) (cwV 0 hts (goodIn_sub (fun _ h9 => List.mem_cons_of_mem _ (List.mem_append_right _ (List.mem_append_right _ h9))) (by decide +kernel)) rfl rfl rfl (by decide +kernel) ⟨(Nat.le_of_ble_eq_true rfl), (Nat.le_of_ble_eq_true rfl)⟩) ⟨fz_blind, va_recv hKc hPc (ci := 6) (q0 := 0) rfl rfl, fz_pre hPc hKc hDc hAm hS hFc⟩ rfl rfl hl.1 rfl (lv_room (Nat.le_of_ble_eq_true rfl)) dX7_isWholeArchFilled_4 ⟨(Nat.le_of_ble_eq_true rfl), (Nat.le_of_ble_eq_true rfl)⟩) hS (fun q _ h => hFc q h) hFc (fun r u t H1 locs ht hvm hw hB hz1 hk1 hS => ?_)
  obtain rfl := hw
  have hP := fz_keep hP hk1
  generalize H1 = H at hP hS ⊢
  have hP : va_P (dC, dI) vwCl [(h0, .inr (12, [.ref hd, .ref hse, .ref hki, .ref hma, .ref hst, .ref hsp, .ref hlp, .ref htl, .int 0, .int 0, .int 0, .int 0, .int 0, .int 0, .int 0, .long ((0 : Int32).toInt64)])), (hd, .inr (6, [.ref hj, .ref hpr, .ref hqd, .int 0, .int 0, .int 1]))] H := hP
  refine W.widen (k := 0) (n := 0) (Nat.le_of_ble_eq_true rfl) (Nat.le_of_ble_eq_true rfl) ?_
  refine lv_if_le (tgt := 28) hx hb dX7_isWholeArchFilled_7 (by decide) (fun _ => ?_) (fun c_9 => absurd (by decide) c_9)
  refine lv_iconst (v := 0) hx hb dX7_isWholeArchFilled_28 (by decide) ?_
  refine W.widen (k := 0) (n := 0) (Nat.le_of_ble_eq_true rfl) (Nat.le_of_ble_eq_true rfl) ?_
  exact W.zret (v := 0) hx hb hr rfl (fun t ht hW => ⟨⟨0, (), rfl, rfl, trivial⟩, hS.F ht⟩) hS.2.2 dX7_isWholeArchFilled_29
def v_c_X7_kindAt : List Cond := .code yX7_kindAt cX7_kindAt 2 (some (.object "VoussoirYard$BlockKind")) :: ([.fieldLink RX7 51 "VoussoirYard" "kindCount" "I"] ++ (wsX70))
set_option maxRecDepth 20000 in
theorem i_c_X7_kindAt : ∀ w ∈ v_c_X7_kindAt, w ∈ lw_tbl := List.forall_mem_cons.mpr ⟨List.mem_of_getElem? (i := 757) (by decide +kernel), List.forall_mem_append.mpr ⟨List.forall_mem_cons.mpr ⟨List.mem_of_getElem? (i := 227) (by decide +kernel), fun _ h => absurd h List.not_mem_nil⟩, inX7⟩⟩
set_option maxHeartbeats 4000000 in
set_option maxRecDepth 100000 in
theorem c_X7_kindAt (l : Launch) (dC : Nat → ClassId) (dI : Nat → Nat → Nat) (e0 : Nat) (h0 : Nat) (p0 : Int32) (hd hse hki hma hst hsp hlp htl : Nat) (sz : Nat) : Met l yX7_kindAt v_c_X7_kindAt ({ frames := 0, cells := 0, slots := 0, locals := 0 }) (fz_P (dC, dI) e0 [(h0, .inr (12, [.ref hd, .ref hse, .ref hki, .ref hma, .ref hst, .ref hsp, .ref hlp, .ref htl, .int 0, .int 0, .int 0, .int 0, .int 0, .int 0, .int 0, .long ((0 : Int32).toInt64)]))] [] sz (fun q : Nat => sz ≤ q) [.ref h0, .int p0]) (va_Qq (fun (r : Option Nat) (u : Unit) => r = none) (fun (u : Unit) (t : State) => True) (fun q : Nat => sz ≤ q)) 0 0 (fun q : Nat => sz ≤ q) := by
  refine Met.ofW (cc := cX7_kindAt) (maxL := 2) (ret := (some (.object "VoussoirYard$BlockKind"))) (by decide) rfl ?_
  intro p e s m args below meth c s₁ B hml hv
  obtain ⟨rfl, hsz, hP, hK, hD0, hAm⟩ := hv
  have hx := B.exec
  have hb := B.bytes
  have hr := B.returns
  have hts := atoms_spec (ws := v_c_X7_kindAt) B.pre
  have hown : s.vm.findClass RX7 = some m.cls := findClass_of_methodNamed B.named
  have hlocks := B.notSynchronized
  subst hsz
  have hD := hD0
  generalize hAe : (fun q : Nat => s.heap.size ≤ q) = A at hAm ⊢
  have hA : ∀ q : Nat, s.heap.size ≤ q → A q := fun q h => by rw [← hAe]; exact h
  have hS : va_S A s.heap s.heap [] := va_S.rf
  have hP : va_P (dC, dI) vwCl [(h0, .inr (12, [.ref hd, .ref hse, .ref hki, .ref hma, .ref hst, .ref hsp, .ref hlp, .ref htl, .int 0, .int 0, .int 0, .int 0, .int 0, .int 0, .int 0, .long ((0 : Int32).toInt64)]))] s.heap := hP
  have hl := lv_entry ([.ref h0, .int p0]) (n := 2) (Nat.le_of_ble_eq_true rfl)
  rw [lg_entry_eq]
  generalize (lg_sl ([.ref h0, .int p0]) ++ List.replicate (2 - (lg_sl ([.ref h0, .int p0])).length) Slot.unset).toArray = ls at hl ⊢
  have hl : lv_has ls 2 [(0, .ref h0), (1, .int p0)] := hl
  refine lv_iload_n hx hb dX7_kindAt_0 rfl (lv_at hl 1 rfl) ?_
  refine lv_if_lt (tgt := 30) hx hb dX7_kindAt_1 (by decide) (fun c_1 => ?_) (fun c_1 => ?_)
  · refine lv_null hx hb dX7_kindAt_30 ?_
    refine W.widen (k := 0) (n := 0) (Nat.le_of_ble_eq_true rfl) (Nat.le_of_ble_eq_true rfl) ?_
    exact W.aret (v := .null) hx hb hr (Or.inl ⟨_, rfl⟩) (Or.inl rfl) (fun t ht hW => ⟨⟨none, (), rfl, rfl, trivial⟩, hS.F ht⟩) hS.2.2 dX7_kindAt_31
  · refine lv_iload_n hx hb dX7_kindAt_4 rfl (lv_at hl 1 rfl) ?_
    refine lv_aload_n hx hb dX7_kindAt_5 rfl (lv_at hl 0 rfl) ?_
    refine va_get (D := (dC, dI)) (ci := 12) (v := .int 0) (C := RX7) (T := TX7) (N := 16) hx hb hts (fun _ h9 => List.mem_cons_of_mem _ (List.mem_append_right _ (h9))) hown hK hP 0 rfl rfl 8 (by decide) (hts _ (List.mem_cons_of_mem _ (List.mem_append_left _ (List.mem_of_getElem? (i := 0) rfl)))) (fun _ h9 => h9) rfl dX7_kindAt_6 ?_
    refine lv_icmp_ge (tgt := 30) hx hb dX7_kindAt_9 (by decide) (fun _ => ?_) (fun c_9 => absurd (by first | (exact absurd ‹_› (by decide)) | assumption | (apply fz_a1; assumption) | (apply fz_a2; assumption) | (apply fz_a3; assumption) | (apply fz_a4; assumption) | decide) c_9)
    refine lv_null hx hb dX7_kindAt_30 ?_
    refine W.widen (k := 0) (n := 0) (Nat.le_of_ble_eq_true rfl) (Nat.le_of_ble_eq_true rfl) ?_
    exact W.aret (v := .null) hx hb hr (Or.inl ⟨_, rfl⟩) (Or.inl rfl) (fun t ht hW => ⟨⟨none, (), rfl, rfl, trivial⟩, hS.F ht⟩) hS.2.2 dX7_kindAt_31
def v_c_X7_masonAt : List Cond := .code yX7_masonAt cX7_masonAt 2 (some (.object "VoussoirYard$Mason")) :: ([.fieldLink RX7 55 "VoussoirYard" "masonCount" "I"] ++ (wsX70))
set_option maxRecDepth 20000 in
theorem i_c_X7_masonAt : ∀ w ∈ v_c_X7_masonAt, w ∈ lw_tbl := List.forall_mem_cons.mpr ⟨List.mem_of_getElem? (i := 827) (by decide +kernel), List.forall_mem_append.mpr ⟨List.forall_mem_cons.mpr ⟨List.mem_of_getElem? (i := 228) (by decide +kernel), fun _ h => absurd h List.not_mem_nil⟩, inX7⟩⟩
set_option maxHeartbeats 4000000 in
set_option maxRecDepth 100000 in
theorem c_X7_masonAt (l : Launch) (dC : Nat → ClassId) (dI : Nat → Nat → Nat) (e0 : Nat) (h0 : Nat) (p0 : Int32) (hd hse hki hma hst hsp hlp htl : Nat) (sz : Nat) : Met l yX7_masonAt v_c_X7_masonAt ({ frames := 0, cells := 0, slots := 0, locals := 0 }) (fz_P (dC, dI) e0 [(h0, .inr (12, [.ref hd, .ref hse, .ref hki, .ref hma, .ref hst, .ref hsp, .ref hlp, .ref htl, .int 0, .int 0, .int 0, .int 0, .int 0, .int 0, .int 0, .long ((0 : Int32).toInt64)]))] [] sz (fun q : Nat => sz ≤ q) [.ref h0, .int p0]) (va_Qq (fun (r : Option Nat) (u : Unit) => r = none) (fun (u : Unit) (t : State) => True) (fun q : Nat => sz ≤ q)) 0 0 (fun q : Nat => sz ≤ q) := by
  refine Met.ofW (cc := cX7_masonAt) (maxL := 2) (ret := (some (.object "VoussoirYard$Mason"))) (by decide) rfl ?_
  intro p e s m args below meth c s₁ B hml hv
  obtain ⟨rfl, hsz, hP, hK, hD0, hAm⟩ := hv
  have hx := B.exec
  have hb := B.bytes
  have hr := B.returns
  have hts := atoms_spec (ws := v_c_X7_masonAt) B.pre
  have hown : s.vm.findClass RX7 = some m.cls := findClass_of_methodNamed B.named
  have hlocks := B.notSynchronized
  subst hsz
  have hD := hD0
  generalize hAe : (fun q : Nat => s.heap.size ≤ q) = A at hAm ⊢
  have hA : ∀ q : Nat, s.heap.size ≤ q → A q := fun q h => by rw [← hAe]; exact h
  have hS : va_S A s.heap s.heap [] := va_S.rf
  have hP : va_P (dC, dI) vwCl [(h0, .inr (12, [.ref hd, .ref hse, .ref hki, .ref hma, .ref hst, .ref hsp, .ref hlp, .ref htl, .int 0, .int 0, .int 0, .int 0, .int 0, .int 0, .int 0, .long ((0 : Int32).toInt64)]))] s.heap := hP
  have hl := lv_entry ([.ref h0, .int p0]) (n := 2) (Nat.le_of_ble_eq_true rfl)
  rw [lg_entry_eq]
  generalize (lg_sl ([.ref h0, .int p0]) ++ List.replicate (2 - (lg_sl ([.ref h0, .int p0])).length) Slot.unset).toArray = ls at hl ⊢
  have hl : lv_has ls 2 [(0, .ref h0), (1, .int p0)] := hl
  refine lv_iload_n hx hb dX7_masonAt_0 rfl (lv_at hl 1 rfl) ?_
  refine lv_if_lt (tgt := 30) hx hb dX7_masonAt_1 (by decide) (fun c_1 => ?_) (fun c_1 => ?_)
  · refine lv_null hx hb dX7_masonAt_30 ?_
    refine W.widen (k := 0) (n := 0) (Nat.le_of_ble_eq_true rfl) (Nat.le_of_ble_eq_true rfl) ?_
    exact W.aret (v := .null) hx hb hr (Or.inl ⟨_, rfl⟩) (Or.inl rfl) (fun t ht hW => ⟨⟨none, (), rfl, rfl, trivial⟩, hS.F ht⟩) hS.2.2 dX7_masonAt_31
  · refine lv_iload_n hx hb dX7_masonAt_4 rfl (lv_at hl 1 rfl) ?_
    refine lv_aload_n hx hb dX7_masonAt_5 rfl (lv_at hl 0 rfl) ?_
    refine va_get (D := (dC, dI)) (ci := 12) (v := .int 0) (C := RX7) (T := TX7) (N := 16) hx hb hts (fun _ h9 => List.mem_cons_of_mem _ (List.mem_append_right _ (h9))) hown hK hP 0 rfl rfl 9 (by decide) (hts _ (List.mem_cons_of_mem _ (List.mem_append_left _ (List.mem_of_getElem? (i := 0) rfl)))) (fun _ h9 => h9) rfl dX7_masonAt_6 ?_
    refine lv_icmp_ge (tgt := 30) hx hb dX7_masonAt_9 (by decide) (fun _ => ?_) (fun c_9 => absurd (by first | (exact absurd ‹_› (by decide)) | assumption | (apply fz_a1; assumption) | (apply fz_a2; assumption) | (apply fz_a3; assumption) | (apply fz_a4; assumption) | decide) c_9)
    refine lv_null hx hb dX7_masonAt_30 ?_
    refine W.widen (k := 0) (n := 0) (Nat.le_of_ble_eq_true rfl) (Nat.le_of_ble_eq_true rfl) ?_
    exact W.aret (v := .null) hx hb hr (Or.inl ⟨_, rfl⟩) (Or.inl rfl) (fun t ht hW => ⟨⟨none, (), rfl, rfl, trivial⟩, hS.F ht⟩) hS.2.2 dX7_masonAt_31
def v_c_X7_stoneAt : List Cond := .code yX7_stoneAt cX7_stoneAt 2 (some (.object "VoussoirYard$Stone")) :: ([.fieldLink RX7 58 "VoussoirYard" "stoneCount" "I"] ++ (wsX70))
set_option maxRecDepth 20000 in
theorem i_c_X7_stoneAt : ∀ w ∈ v_c_X7_stoneAt, w ∈ lw_tbl := List.forall_mem_cons.mpr ⟨List.mem_of_getElem? (i := 316) (by decide +kernel), List.forall_mem_append.mpr ⟨List.forall_mem_cons.mpr ⟨List.mem_of_getElem? (i := 229) (by decide +kernel), fun _ h => absurd h List.not_mem_nil⟩, inX7⟩⟩
set_option maxHeartbeats 4000000 in
set_option maxRecDepth 100000 in
theorem c_X7_stoneAt (l : Launch) (dC : Nat → ClassId) (dI : Nat → Nat → Nat) (e0 : Nat) (h0 : Nat) (p0 : Int32) (hd hse hki hma hst hsp hlp htl : Nat) (sz : Nat) : Met l yX7_stoneAt v_c_X7_stoneAt ({ frames := 0, cells := 0, slots := 0, locals := 0 }) (fz_P (dC, dI) e0 [(h0, .inr (12, [.ref hd, .ref hse, .ref hki, .ref hma, .ref hst, .ref hsp, .ref hlp, .ref htl, .int 0, .int 0, .int 0, .int 0, .int 0, .int 0, .int 0, .long ((0 : Int32).toInt64)]))] [] sz (fun q : Nat => sz ≤ q) [.ref h0, .int p0]) (va_Qq (fun (r : Option Nat) (u : Unit) => r = none) (fun (u : Unit) (t : State) => True) (fun q : Nat => sz ≤ q)) 0 0 (fun q : Nat => sz ≤ q) := by
  refine Met.ofW (cc := cX7_stoneAt) (maxL := 2) (ret := (some (.object "VoussoirYard$Stone"))) (by decide) rfl ?_
  intro p e s m args below meth c s₁ B hml hv
  obtain ⟨rfl, hsz, hP, hK, hD0, hAm⟩ := hv
  have hx := B.exec
  have hb := B.bytes
  have hr := B.returns
  have hts := atoms_spec (ws := v_c_X7_stoneAt) B.pre
  have hown : s.vm.findClass RX7 = some m.cls := findClass_of_methodNamed B.named
  have hlocks := B.notSynchronized
  subst hsz
  have hD := hD0
  generalize hAe : (fun q : Nat => s.heap.size ≤ q) = A at hAm ⊢
  have hA : ∀ q : Nat, s.heap.size ≤ q → A q := fun q h => by rw [← hAe]; exact h
  have hS : va_S A s.heap s.heap [] := va_S.rf
  have hP : va_P (dC, dI) vwCl [(h0, .inr (12, [.ref hd, .ref hse, .ref hki, .ref hma, .ref hst, .ref hsp, .ref hlp, .ref htl, .int 0, .int 0, .int 0, .int 0, .int 0, .int 0, .int 0, .long ((0 : Int32).toInt64)]))] s.heap := hP
  have hl := lv_entry ([.ref h0, .int p0]) (n := 2) (Nat.le_of_ble_eq_true rfl)
  rw [lg_entry_eq]
  generalize (lg_sl ([.ref h0, .int p0]) ++ List.replicate (2 - (lg_sl ([.ref h0, .int p0])).length) Slot.unset).toArray = ls at hl ⊢
  have hl : lv_has ls 2 [(0, .ref h0), (1, .int p0)] := hl
  refine lv_iload_n hx hb dX7_stoneAt_0 rfl (lv_at hl 1 rfl) ?_
  refine lv_if_lt (tgt := 30) hx hb dX7_stoneAt_1 (by decide) (fun c_1 => ?_) (fun c_1 => ?_)
  · refine lv_null hx hb dX7_stoneAt_30 ?_
    refine W.widen (k := 0) (n := 0) (Nat.le_of_ble_eq_true rfl) (Nat.le_of_ble_eq_true rfl) ?_
    exact W.aret (v := .null) hx hb hr (Or.inl ⟨_, rfl⟩) (Or.inl rfl) (fun t ht hW => ⟨⟨none, (), rfl, rfl, trivial⟩, hS.F ht⟩) hS.2.2 dX7_stoneAt_31
  · refine lv_iload_n hx hb dX7_stoneAt_4 rfl (lv_at hl 1 rfl) ?_
    refine lv_aload_n hx hb dX7_stoneAt_5 rfl (lv_at hl 0 rfl) ?_
    refine va_get (D := (dC, dI)) (ci := 12) (v := .int 0) (C := RX7) (T := TX7) (N := 16) hx hb hts (fun _ h9 => List.mem_cons_of_mem _ (List.mem_append_right _ (h9))) hown hK hP 0 rfl rfl 10 (by decide) (hts _ (List.mem_cons_of_mem _ (List.mem_append_left _ (List.mem_of_getElem? (i := 0) rfl)))) (fun _ h9 => h9) rfl dX7_stoneAt_6 ?_
    refine lv_icmp_ge (tgt := 30) hx hb dX7_stoneAt_9 (by decide) (fun _ => ?_) (fun c_9 => absurd (by first | (exact absurd ‹_› (by decide)) | assumption | (apply fz_a1; assumption) | (apply fz_a2; assumption) | (apply fz_a3; assumption) | (apply fz_a4; assumption) | decide) c_9)
    refine lv_null hx hb dX7_stoneAt_30 ?_
    refine W.widen (k := 0) (n := 0) (Nat.le_of_ble_eq_true rfl) (Nat.le_of_ble_eq_true rfl) ?_
    exact W.aret (v := .null) hx hb hr (Or.inl ⟨_, rfl⟩) (Or.inl rfl) (fun t ht hW => ⟨⟨none, (), rfl, rfl, trivial⟩, hS.F ht⟩) hS.2.2 dX7_stoneAt_31
def v_c_X7_areaOfUsedBlocks : List Cond := .code yX7_areaOfUsedBlocks cX7_areaOfUsedBlocks 4 (some .int) :: ([.fieldLink RX7 58 "VoussoirYard" "stoneCount" "I"] ++ (wsX70))
set_option maxRecDepth 20000 in
theorem i_c_X7_areaOfUsedBlocks : ∀ w ∈ v_c_X7_areaOfUsedBlocks, w ∈ lw_tbl := List.forall_mem_cons.mpr ⟨List.mem_of_getElem? (i := 312) (by decide +kernel), List.forall_mem_append.mpr ⟨List.forall_mem_cons.mpr ⟨List.mem_of_getElem? (i := 229) (by decide +kernel), fun _ h => absurd h List.not_mem_nil⟩, inX7⟩⟩
set_option maxHeartbeats 4000000 in
set_option maxRecDepth 100000 in
theorem c_X7_areaOfUsedBlocks (l : Launch) (dC : Nat → ClassId) (dI : Nat → Nat → Nat) (e0 : Nat) (h0 hd hse hki hma hst hsp hlp htl : Nat) (sz : Nat) : Met l yX7_areaOfUsedBlocks v_c_X7_areaOfUsedBlocks ({ frames := 0, cells := 0, slots := 0, locals := 0 }) (fz_P (dC, dI) e0 [(h0, .inr (12, [.ref hd, .ref hse, .ref hki, .ref hma, .ref hst, .ref hsp, .ref hlp, .ref htl, .int 0, .int 0, .int 0, .int 0, .int 0, .int 0, .int 0, .long ((0 : Int32).toInt64)]))] [] sz (fun q : Nat => sz ≤ q) [.ref h0]) (va_Qi (fun (r : Int32) (u : Unit) => r = 0) (fun (u : Unit) (t : State) => True) (fun q : Nat => sz ≤ q)) 0 0 (fun q : Nat => sz ≤ q) := by
  refine Met.ofW (cc := cX7_areaOfUsedBlocks) (maxL := 4) (ret := (some .int)) (by decide) rfl ?_
  intro p e s m args below meth c s₁ B hml hv
  obtain ⟨rfl, hsz, hP, hK, hD0, hAm⟩ := hv
  have hx := B.exec
  have hb := B.bytes
  have hr := B.returns
  have hts := atoms_spec (ws := v_c_X7_areaOfUsedBlocks) B.pre
  have hown : s.vm.findClass RX7 = some m.cls := findClass_of_methodNamed B.named
  have hlocks := B.notSynchronized
  subst hsz
  have hD := hD0
  generalize hAe : (fun q : Nat => s.heap.size ≤ q) = A at hAm ⊢
  have hA : ∀ q : Nat, s.heap.size ≤ q → A q := fun q h => by rw [← hAe]; exact h
  have hS : va_S A s.heap s.heap [] := va_S.rf
  have hP : va_P (dC, dI) vwCl [(h0, .inr (12, [.ref hd, .ref hse, .ref hki, .ref hma, .ref hst, .ref hsp, .ref hlp, .ref htl, .int 0, .int 0, .int 0, .int 0, .int 0, .int 0, .int 0, .long ((0 : Int32).toInt64)]))] s.heap := hP
  have hl := lv_entry ([.ref h0]) (n := 4) (Nat.le_of_ble_eq_true rfl)
  rw [lg_entry_eq]
  generalize (lg_sl ([.ref h0]) ++ List.replicate (4 - (lg_sl ([.ref h0])).length) Slot.unset).toArray = ls at hl ⊢
  have hl : lv_has ls 4 [(0, .ref h0)] := hl
  refine lv_iconst (v := 0) hx hb dX7_areaOfUsedBlocks_0 (by decide) ?_
  refine lv_istore_n (lv' := [(1, .int 0), (0, .ref h0)]) hx hb dX7_areaOfUsedBlocks_1 rfl hl (by decide) rfl (fun ls hl => ?_)
  refine lv_iconst (v := 0) hx hb dX7_areaOfUsedBlocks_2 (by decide) ?_
  refine lv_istore_n (lv' := [(2, .int 0), (1, .int 0), (0, .ref h0)]) hx hb dX7_areaOfUsedBlocks_3 rfl hl (by decide) rfl (fun ls hl => ?_)
  refine lv_iload_n hx hb dX7_areaOfUsedBlocks_4 rfl (lv_at hl 0 rfl) ?_
  refine lv_aload_n hx hb dX7_areaOfUsedBlocks_5 rfl (lv_at hl 2 rfl) ?_
  refine va_get (D := (dC, dI)) (ci := 12) (v := .int 0) (C := RX7) (T := TX7) (N := 16) hx hb hts (fun _ h9 => List.mem_cons_of_mem _ (List.mem_append_right _ (h9))) hown hK hP 0 rfl rfl 10 (by decide) (hts _ (List.mem_cons_of_mem _ (List.mem_append_left _ (List.mem_of_getElem? (i := 0) rfl)))) (fun _ h9 => h9) rfl dX7_areaOfUsedBlocks_6 ?_
  refine lv_icmp_ge (tgt := 35) hx hb dX7_areaOfUsedBlocks_9 (by decide) (fun _ => ?_) (fun c_9 => absurd (by decide) c_9)
  refine lv_iload_n hx hb dX7_areaOfUsedBlocks_35 rfl (lv_at hl 1 rfl) ?_
  refine W.widen (k := 0) (n := 0) (Nat.le_of_ble_eq_true rfl) (Nat.le_of_ble_eq_true rfl) ?_
  exact W.iret (v := 0) hx hb hr (fun t ht hW => ⟨⟨0, (), rfl, rfl, trivial⟩, hS.F ht⟩) hS.2.2 dX7_areaOfUsedBlocks_36
def v_c_X7_areaOfStones : List Cond := .code yX7_areaOfStones cX7_areaOfStones 4 (some .int) :: ([.fieldLink RX7 58 "VoussoirYard" "stoneCount" "I"] ++ (wsX70))
set_option maxRecDepth 20000 in
theorem i_c_X7_areaOfStones : ∀ w ∈ v_c_X7_areaOfStones, w ∈ lw_tbl := List.forall_mem_cons.mpr ⟨List.mem_of_getElem? (i := 320) (by decide +kernel), List.forall_mem_append.mpr ⟨List.forall_mem_cons.mpr ⟨List.mem_of_getElem? (i := 229) (by decide +kernel), fun _ h => absurd h List.not_mem_nil⟩, inX7⟩⟩
set_option maxHeartbeats 4000000 in
set_option maxRecDepth 100000 in
theorem c_X7_areaOfStones (l : Launch) (dC : Nat → ClassId) (dI : Nat → Nat → Nat) (e0 : Nat) (h0 hd hse hki hma hst hsp hlp htl : Nat) (sz : Nat) : Met l yX7_areaOfStones v_c_X7_areaOfStones ({ frames := 0, cells := 0, slots := 0, locals := 0 }) (fz_P (dC, dI) e0 [(h0, .inr (12, [.ref hd, .ref hse, .ref hki, .ref hma, .ref hst, .ref hsp, .ref hlp, .ref htl, .int 0, .int 0, .int 0, .int 0, .int 0, .int 0, .int 0, .long ((0 : Int32).toInt64)]))] [] sz (fun q : Nat => sz ≤ q) [.ref h0]) (va_Qi (fun (r : Int32) (u : Unit) => r = 0) (fun (u : Unit) (t : State) => True) (fun q : Nat => sz ≤ q)) 0 0 (fun q : Nat => sz ≤ q) := by
  refine Met.ofW (cc := cX7_areaOfStones) (maxL := 4) (ret := (some .int)) (by decide) rfl ?_
  intro p e s m args below meth c s₁ B hml hv
  obtain ⟨rfl, hsz, hP, hK, hD0, hAm⟩ := hv
  have hx := B.exec
  have hb := B.bytes
  have hr := B.returns
  have hts := atoms_spec (ws := v_c_X7_areaOfStones) B.pre
  have hown : s.vm.findClass RX7 = some m.cls := findClass_of_methodNamed B.named
  have hlocks := B.notSynchronized
  subst hsz
  have hD := hD0
  generalize hAe : (fun q : Nat => s.heap.size ≤ q) = A at hAm ⊢
  have hA : ∀ q : Nat, s.heap.size ≤ q → A q := fun q h => by rw [← hAe]; exact h
  have hS : va_S A s.heap s.heap [] := va_S.rf
  have hP : va_P (dC, dI) vwCl [(h0, .inr (12, [.ref hd, .ref hse, .ref hki, .ref hma, .ref hst, .ref hsp, .ref hlp, .ref htl, .int 0, .int 0, .int 0, .int 0, .int 0, .int 0, .int 0, .long ((0 : Int32).toInt64)]))] s.heap := hP
  have hl := lv_entry ([.ref h0]) (n := 4) (Nat.le_of_ble_eq_true rfl)
  rw [lg_entry_eq]
  generalize (lg_sl ([.ref h0]) ++ List.replicate (4 - (lg_sl ([.ref h0])).length) Slot.unset).toArray = ls at hl ⊢
  have hl : lv_has ls 4 [(0, .ref h0)] := hl
  refine lv_iconst (v := 0) hx hb dX7_areaOfStones_0 (by decide) ?_
  refine lv_istore_n (lv' := [(1, .int 0), (0, .ref h0)]) hx hb dX7_areaOfStones_1 rfl hl (by decide) rfl (fun ls hl => ?_)
  refine lv_iconst (v := 0) hx hb dX7_areaOfStones_2 (by decide) ?_
  refine lv_istore_n (lv' := [(2, .int 0), (1, .int 0), (0, .ref h0)]) hx hb dX7_areaOfStones_3 rfl hl (by decide) rfl (fun ls hl => ?_)
  refine lv_iload_n hx hb dX7_areaOfStones_4 rfl (lv_at hl 0 rfl) ?_
  refine lv_aload_n hx hb dX7_areaOfStones_5 rfl (lv_at hl 2 rfl) ?_
  refine va_get (D := (dC, dI)) (ci := 12) (v := .int 0) (C := RX7) (T := TX7) (N := 16) hx hb hts (fun _ h9 => List.mem_cons_of_mem _ (List.mem_append_right _ (h9))) hown hK hP 0 rfl rfl 10 (by decide) (hts _ (List.mem_cons_of_mem _ (List.mem_append_left _ (List.mem_of_getElem? (i := 0) rfl)))) (fun _ h9 => h9) rfl dX7_areaOfStones_6 ?_
  refine lv_icmp_ge (tgt := 38) hx hb dX7_areaOfStones_9 (by decide) (fun _ => ?_) (fun c_9 => absurd (by decide) c_9)
  refine lv_iload_n hx hb dX7_areaOfStones_38 rfl (lv_at hl 1 rfl) ?_
  refine W.widen (k := 0) (n := 0) (Nat.le_of_ble_eq_true rfl) (Nat.le_of_ble_eq_true rfl) ?_
  exact W.iret (v := 0) hx hb hr (fun t ht hW => ⟨⟨0, (), rfl, rfl, trivial⟩, hS.F ht⟩) hS.2.2 dX7_areaOfStones_39
def v_c_X7_areSetStonesFitting : List Cond := .code yX7_areSetStonesFitting cX7_areSetStonesFitting 4 (some .boolean) :: ([.fieldLink RX7 10 "VoussoirYard" "drawing" "LVoussoirYard$Drawing;"] ++ (wsX70 ++ (wsV RX7 145 RX1 yX1_placeCount v_c_X1_placeCount)))
set_option maxRecDepth 20000 in
theorem i_c_X7_areSetStonesFitting : ∀ w ∈ v_c_X7_areSetStonesFitting, w ∈ lw_tbl := List.forall_mem_cons.mpr ⟨List.mem_of_getElem? (i := 362) (by decide +kernel), List.forall_mem_append.mpr ⟨List.forall_mem_cons.mpr ⟨List.mem_of_getElem? (i := 219) (by decide +kernel), fun _ h => absurd h List.not_mem_nil⟩, List.forall_mem_append.mpr ⟨inX7, (by unfold wsV; exact List.forall_mem_append.mpr ⟨List.forall_mem_cons.mpr ⟨List.mem_of_getElem? (i := 272) (by decide +kernel), List.forall_mem_cons.mpr ⟨List.mem_of_getElem? (i := 273) (by decide +kernel), List.forall_mem_cons.mpr ⟨List.mem_of_getElem? (i := 274) (by decide +kernel), List.forall_mem_cons.mpr ⟨List.mem_of_getElem? (i := 50) (by decide +kernel), fun _ h => absurd h List.not_mem_nil⟩⟩⟩⟩, i_c_X1_placeCount⟩)⟩⟩⟩
set_option maxHeartbeats 4000000 in
set_option maxRecDepth 100000 in
theorem c_X7_areSetStonesFitting (l : Launch) (dC : Nat → ClassId) (dI : Nat → Nat → Nat) (e0 : Nat) (h0 hd hse hki hma hst hsp hlp htl hj hpr hqd : Nat) (sz : Nat) : Met l yX7_areSetStonesFitting v_c_X7_areSetStonesFitting ({ frames := 2, cells := 0, slots := 0, locals := 50 }) (fz_P (dC, dI) e0 [(h0, .inr (12, [.ref hd, .ref hse, .ref hki, .ref hma, .ref hst, .ref hsp, .ref hlp, .ref htl, .int 0, .int 0, .int 0, .int 0, .int 0, .int 0, .int 0, .long ((0 : Int32).toInt64)])), (hd, .inr (6, [.ref hj, .ref hpr, .ref hqd, .int 0, .int 0, .int 1]))] [] sz (fun q : Nat => sz ≤ q) [.ref h0]) (va_Qi (fun (r : Int32) (u : Unit) => r = 1) (fun (u : Unit) (t : State) => True) (fun q : Nat => sz ≤ q)) 0 0 (fun q : Nat => sz ≤ q) := by
  refine Met.ofW (cc := cX7_areSetStonesFitting) (maxL := 4) (ret := (some .boolean)) (by decide) rfl ?_
  intro p e s m args below meth c s₁ B hml hv
  obtain ⟨rfl, hsz, hP, hK, hD0, hAm⟩ := hv
  have hx := B.exec
  have hb := B.bytes
  have hr := B.returns
  have hts := atoms_spec (ws := v_c_X7_areSetStonesFitting) B.pre
  have hown : s.vm.findClass RX7 = some m.cls := findClass_of_methodNamed B.named
  have hlocks := B.notSynchronized
  subst hsz
  have hD := hD0
  generalize hAe : (fun q : Nat => s.heap.size ≤ q) = A at hAm ⊢
  have hA : ∀ q : Nat, s.heap.size ≤ q → A q := fun q h => by rw [← hAe]; exact h
  have hS : va_S A s.heap s.heap [] := va_S.rf
  have hP : va_P (dC, dI) vwCl [(h0, .inr (12, [.ref hd, .ref hse, .ref hki, .ref hma, .ref hst, .ref hsp, .ref hlp, .ref htl, .int 0, .int 0, .int 0, .int 0, .int 0, .int 0, .int 0, .long ((0 : Int32).toInt64)])), (hd, .inr (6, [.ref hj, .ref hpr, .ref hqd, .int 0, .int 0, .int 1]))] s.heap := hP
  have hl := lv_entry ([.ref h0]) (n := 4) (Nat.le_of_ble_eq_true rfl)
  rw [lg_entry_eq]
  generalize (lg_sl ([.ref h0]) ++ List.replicate (4 - (lg_sl ([.ref h0])).length) Slot.unset).toArray = ls at hl ⊢
  have hl : lv_has ls 4 [(0, .ref h0)] := hl
  refine lv_iconst (v := 0) hx hb dX7_areSetStonesFitting_0 (by decide) ?_
  refine lv_istore_n (lv' := [(1, .int 0), (0, .ref h0)]) hx hb dX7_areSetStonesFitting_1 rfl hl (by decide) rfl (fun ls hl => ?_)
  refine lv_iload_n hx hb dX7_areSetStonesFitting_2 rfl (lv_at hl 0 rfl) ?_
  refine lv_aload_n hx hb dX7_areSetStonesFitting_3 rfl (lv_at hl 1 rfl) ?_
  refine va_get (D := (dC, dI)) (ci := 12) (v := .ref hd) (C := RX7) (T := TX7) (N := 16) hx hb hts (fun _ h9 => List.mem_cons_of_mem _ (List.mem_append_right _ (List.mem_append_left _ h9))) hown hK hP 0 rfl rfl 0 (by decide) (hts _ (List.mem_cons_of_mem _ (List.mem_append_left _ (List.mem_of_getElem? (i := 0) rfl)))) (fun _ h9 => h9) rfl dX7_areSetStonesFitting_4 ?_
  have hPc := hP.sub (ws' := [(hd, .inr (6, [.ref hj, .ref hpr, .ref hqd, .int 0, .int 0, .int 1]))]) [1] rfl
  have hDc := hD.sub (ws' := [(hd, .inr (6, [.ref hj, .ref hpr, .ref hqd, .int 0, .int 0, .int 1]))]) [1] (by decide) rfl
  have hKc := hK.sub (tys' := []) [] rfl
  have hFc : ∀ q : Nat, s.heap.size ≤ q → A q := fun q h => hA q (Nat.le_trans hS.1 h)
  refine va_calli (va_runV (As := []) (rest := [.int 0]) ⟨hx, hb, hml, hown, hts⟩ (c_X1_placeCount l dC dI e0 hd hj hpr hqd s.heap.size) (cwV 0 hts (goodIn_sub (fun _ h9 => List.mem_cons_of_mem _ (List.mem_append_right _ (List.mem_append_right _ h9))) (by decide +kernel)) rfl rfl rfl (by decide +kernel) ⟨(Nat.le_of_ble_eq_true rfl), (Nat.le_of_ble_eq_true rfl)⟩) ⟨fz_blind, va_recv hKc hPc (ci := 6) (q0 := 0) rfl rfl, fz_pre hPc hKc hDc hAm hS hFc⟩ rfl rfl hl.1 rfl (lv_room (Nat.le_of_ble_eq_true rfl)) dX7_areSetStonesFitting_7 ⟨(Nat.le_of_ble_eq_true rfl), (Nat.le_of_ble_eq_true rfl)⟩) hS (fun q _ h => hFc q h) hFc (fun r u t H1 locs ht hvm hw hB hz1 hk1 hS => ?_)
  obtain rfl := hw
  have hP := fz_keep hP hk1
  generalize H1 = H at hP hS ⊢
  have hP : va_P (dC, dI) vwCl [(h0, .inr (12, [.ref hd, .ref hse, .ref hki, .ref hma, .ref hst, .ref hsp, .ref hlp, .ref htl, .int 0, .int 0, .int 0, .int 0, .int 0, .int 0, .int 0, .long ((0 : Int32).toInt64)])), (hd, .inr (6, [.ref hj, .ref hpr, .ref hqd, .int 0, .int 0, .int 1]))] H := hP
  refine W.widen (k := 0) (n := 0) (Nat.le_of_ble_eq_true rfl) (Nat.le_of_ble_eq_true rfl) ?_
  refine lv_icmp_ge (tgt := 59) hx hb dX7_areSetStonesFitting_10 (by decide) (fun _ => ?_) (fun c_9 => absurd (by decide) c_9)
  refine lv_iconst (v := 1) hx hb dX7_areSetStonesFitting_59 (by decide) ?_
  refine W.widen (k := 0) (n := 0) (Nat.le_of_ble_eq_true rfl) (Nat.le_of_ble_eq_true rfl) ?_
  exact W.zret (v := 1) hx hb hr rfl (fun t ht hW => ⟨⟨1, (), rfl, rfl, trivial⟩, hS.F ht⟩) hS.2.2 dX7_areSetStonesFitting_60
