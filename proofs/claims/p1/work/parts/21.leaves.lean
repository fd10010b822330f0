def v_c_X8_init : List Cond := .code yX8_init cX8_init 6 none :: ([.methodLink RX8 1 objectInit, .instanceMethod objectInit, .code objectInit ⟨#[0xb1]⟩ 1 none, .fieldLink RX8 7 "VoussoirYardModel$Blocks" "width" "I", .fieldLink RX8 13 "VoussoirYardModel$Blocks" "height" "I", .fieldLink RX8 16 "VoussoirYardModel$Blocks" "left" "I", .fieldLink RX8 19 "VoussoirYardModel$Blocks" "price" "I", .fieldLink RX8 22 "VoussoirYardModel$Blocks" "bedded" "Z"] ++ (wsX80))
set_option maxRecDepth 20000 in
theorem i_c_X8_init : ∀ w ∈ v_c_X8_init, w ∈ lw_tbl := List.forall_mem_cons.mpr ⟨List.mem_of_getElem? (i := 1691) (by decide +kernel), List.forall_mem_append.mpr ⟨List.forall_mem_cons.mpr ⟨List.mem_of_getElem? (i := 1692) (by decide +kernel), List.forall_mem_cons.mpr ⟨List.mem_of_getElem? (i := 94) (by decide +kernel), List.forall_mem_cons.mpr ⟨List.mem_of_getElem? (i := 95) (by decide +kernel), List.forall_mem_cons.mpr ⟨List.mem_of_getElem? (i := 1693) (by decide +kernel), List.forall_mem_cons.mpr ⟨List.mem_of_getElem? (i := 1695) (by decide +kernel), List.forall_mem_cons.mpr ⟨List.mem_of_getElem? (i := 1701) (by decide +kernel), List.forall_mem_cons.mpr ⟨List.mem_of_getElem? (i := 1697) (by decide +kernel), List.forall_mem_cons.mpr ⟨List.mem_of_getElem? (i := 1699) (by decide +kernel), fun _ h => absurd h List.not_mem_nil⟩⟩⟩⟩⟩⟩⟩⟩, inX8⟩⟩
set_option maxHeartbeats 4000000 in
set_option maxRecDepth 100000 in
theorem c_X8_init (l : Launch) (dC : Nat → ClassId) (dI : Nat → Nat → Nat) (e0 : Nat) (h0 : Nat) (p0 p1 p2 p3 b4 : Int32) (sz : Nat) (h_b4 : b4 = 0 ∨ b4 = 1) : Met l yX8_init v_c_X8_init ({ frames := 1, cells := 0, slots := 0, locals := 30 }) (fz_P (dC, dI) e0 [(h0, .inr (13, [.int 0, .int 0, .int 0, .int 0, .int 0]))] [] sz (va_A [(h0, .inr (13, [.int 0, .int 0, .int 0, .int 0, .int 0]))] sz) [.ref h0, .int p0, .int p1, .int p2, .int p3, .int b4]) (va_Qv (fun (u : Unit) => True) (fun (u : Unit) (t : State) => va_P (dC, dI) vwCl [(h0, .inr (13, [.int p0, .int p1, .int p3, .int b4, .int p2]))] t.heap ∧ va_K (dC, dI) vwCl [] t ∧ va_D (va_A [(h0, .inr (13, [.int 0, .int 0, .int 0, .int 0, .int 0]))] sz) [(h0, .inr (13, [.int p0, .int p1, .int p3, .int b4, .int p2]))]) (va_A [(h0, .inr (13, [.int 0, .int 0, .int 0, .int 0, .int 0]))] sz)) 0 0 (va_A [(h0, .inr (13, [.int 0, .int 0, .int 0, .int 0, .int 0]))] sz) := by
  refine Met.ofW (cc := cX8_init) (maxL := 6) (ret := none) (by decide) rfl ?_
  intro p e s m args below meth c s₁ B hml hv
  obtain ⟨rfl, hsz, hP, hK, hD0, hAm⟩ := hv
  have hx := B.exec
  have hb := B.bytes
  have hr := B.returns
  have hts := atoms_spec (ws := v_c_X8_init) B.pre
  have hown : s.vm.findClass RX8 = some m.cls := findClass_of_methodNamed B.named
  have hlocks := B.notSynchronized
  have hin : meth.name = "<init>" := (name_of_methodNamed B.named B.method).1
  subst hsz
  have hD := hD0.self (sz := s.heap.size)
  generalize hAe : va_A [(h0, .inr (13, [.int 0, .int 0, .int 0, .int 0, .int 0]))] s.heap.size = A at hD hAm ⊢
  have hA : ∀ q : Nat, s.heap.size ≤ q → A q := fun q h => by rw [← hAe]; exact Or.inr h
  have hS : va_S A s.heap s.heap [] := va_S.rf
  have hP : va_P (dC, dI) vwCl [(h0, .inr (13, [.int 0, .int 0, .int 0, .int 0, .int 0]))] s.heap := hP
  have hl := lv_entry ([.ref h0, .int p0, .int p1, .int p2, .int p3, .int b4]) (n := 6) (Nat.le_of_ble_eq_true rfl)
  rw [lg_entry_eq]
  generalize (lg_sl ([.ref h0, .int p0, .int p1, .int p2, .int p3, .int b4]) ++ List.replicate (6 - (lg_sl ([.ref h0, .int p0, .int p1, .int p2, .int p3, .int b4])).length) Slot.unset).toArray = ls at hl ⊢
  have hl : lv_has ls 6 [(0, .ref h0), (1, .int p0), (2, .int p1), (3, .int p2), (4, .int p3), (5, .int b4)] := hl
  refine lv_aload_n hx hb dX8_init_0 rfl (lv_at hl 0 rfl) ?_
  refine W.objInit hx hb hown (hts _ (List.mem_cons_of_mem _ (List.mem_append_left _ (List.mem_of_getElem? (i := 0) rfl)))) (hts _ (List.mem_cons_of_mem _ (List.mem_append_left _ (List.mem_of_getElem? (i := 1) rfl)))) (hts _ (List.mem_cons_of_mem _ (List.mem_append_left _ (List.mem_of_getElem? (i := 2) rfl)))) rfl (by rw [hml]; exact hl.1) rfl dX8_init_1 (Nat.le_of_ble_eq_true rfl) (Nat.le_of_ble_eq_true rfl) ?_
  refine W.eq (g2 := F0 m 4 ls []) rfl ?_
  refine lv_aload_n hx hb dX8_init_4 rfl (lv_at hl 0 rfl) ?_
  refine lv_iload_n hx hb dX8_init_5 rfl (lv_at hl 1 rfl) ?_
  refine va_putF (D := (dC, dI)) (ci := 13) (v := .int p0) (ty := .int) (C := RX8) (T := TX8) (N := 5) hx hb hts (fun _ h9 => List.mem_cons_of_mem _ (List.mem_append_right _ (h9))) tyX8 tyX8_ok nmX8 hown hK hP hD hS 0 rfl rfl 0 (by decide) (hts _ (List.mem_cons_of_mem _ (List.mem_append_left _ (List.mem_of_getElem? (i := 3) rfl)))) (fun _ h9 => h9) rfl hin rfl (by decide +kernel) rfl rfl (Nat.le_of_ble_eq_true rfl) dX8_init_6 (fun H locs hP hD hS => ?_)
  have hP : va_P (dC, dI) vwCl [(h0, .inr (13, [.int p0, .int 0, .int 0, .int 0, .int 0]))] H := hP
  have hD : va_D A [(h0, .inr (13, [.int p0, .int 0, .int 0, .int 0, .int 0]))] := hD
  refine lv_aload_n hx hb dX8_init_9 rfl (lv_at hl 0 rfl) ?_
  refine lv_iload_n hx hb dX8_init_10 rfl (lv_at hl 2 rfl) ?_
  refine va_putF (D := (dC, dI)) (ci := 13) (v := .int p1) (ty := .int) (C := RX8) (T := TX8) (N := 5) hx hb hts (fun _ h9 => List.mem_cons_of_mem _ (List.mem_append_right _ (h9))) tyX8 tyX8_ok nmX8 hown hK hP hD hS 0 rfl rfl 1 (by decide) (hts _ (List.mem_cons_of_mem _ (List.mem_append_left _ (List.mem_of_getElem? (i := 4) rfl)))) (fun _ h9 => h9) rfl hin rfl (by decide +kernel) rfl rfl (Nat.le_of_ble_eq_true rfl) dX8_init_11 (fun H locs hP hD hS => ?_)
  have hP : va_P (dC, dI) vwCl [(h0, .inr (13, [.int p0, .int p1, .int 0, .int 0, .int 0]))] H := hP
  have hD : va_D A [(h0, .inr (13, [.int p0, .int p1, .int 0, .int 0, .int 0]))] := hD
  refine lv_aload_n hx hb dX8_init_14 rfl (lv_at hl 0 rfl) ?_
  refine lv_iload_n hx hb dX8_init_15 rfl (lv_at hl 3 rfl) ?_
  refine va_put (D := (dC, dI)) (ci := 13) (v := .int p2) (ty := .int) (C := RX8) (T := TX8) (N := 5) hx hb hts (fun _ h9 => List.mem_cons_of_mem _ (List.mem_append_right _ (h9))) tyX8 tyX8_ok nmX8 hown hK hP hD hS 0 rfl rfl 4 (by decide) (hts _ (List.mem_cons_of_mem _ (List.mem_append_left _ (List.mem_of_getElem? (i := 5) rfl)))) (fun _ h9 => h9) rfl (by decide +kernel) rfl rfl (Nat.le_of_ble_eq_true rfl) dX8_init_16 (fun H locs hP hD hS => ?_)
  have hP : va_P (dC, dI) vwCl [(h0, .inr (13, [.int p0, .int p1, .int 0, .int 0, .int p2]))] H := hP
  have hD : va_D A [(h0, .inr (13, [.int p0, .int p1, .int 0, .int 0, .int p2]))] := hD
  refine lv_aload_n hx hb dX8_init_19 rfl (lv_at hl 0 rfl) ?_
  refine lv_iload hx hb dX8_init_20 (lv_at hl 4 rfl) ?_
  refine va_putF (D := (dC, dI)) (ci := 13) (v := .int p3) (ty := .int) (C := RX8) (T := TX8) (N := 5) hx hb hts (fun _ h9 => List.mem_cons_of_mem _ (List.mem_append_right _ (h9))) tyX8 tyX8_ok nmX8 hown hK hP hD hS 0 rfl rfl 2 (by decide) (hts _ (List.mem_cons_of_mem _ (List.mem_append_left _ (List.mem_of_getElem? (i := 6) rfl)))) (fun _ h9 => h9) rfl hin rfl (by decide +kernel) rfl rfl (Nat.le_of_ble_eq_true rfl) dX8_init_22 (fun H locs hP hD hS => ?_)
  have hP : va_P (dC, dI) vwCl [(h0, .inr (13, [.int p0, .int p1, .int p3, .int 0, .int p2]))] H := hP
  have hD : va_D A [(h0, .inr (13, [.int p0, .int p1, .int p3, .int 0, .int p2]))] := hD
  refine lv_aload_n hx hb dX8_init_25 rfl (lv_at hl 0 rfl) ?_
  refine lv_iload hx hb dX8_init_26 (lv_at hl 5 rfl) ?_
  refine va_putF (D := (dC, dI)) (ci := 13) (v := .int b4) (ty := .boolean) (C := RX8) (T := TX8) (N := 5) hx hb hts (fun _ h9 => List.mem_cons_of_mem _ (List.mem_append_right _ (h9))) tyX8 tyX8_ok nmX8 hown hK hP hD hS 0 rfl rfl 3 (by decide) (hts _ (List.mem_cons_of_mem _ (List.mem_append_left _ (List.mem_of_getElem? (i := 7) rfl)))) (fun _ h9 => h9) rfl hin rfl (by decide +kernel) (by rcases h_b4 with rfl | rfl <;> rfl) (by rcases h_b4 with rfl | rfl <;> rfl) (Nat.le_of_ble_eq_true rfl) dX8_init_28 (fun H locs hP hD hS => ?_)
  have hP : va_P (dC, dI) vwCl [(h0, .inr (13, [.int p0, .int p1, .int p3, .int b4, .int p2]))] H := hP
  have hD : va_D A [(h0, .inr (13, [.int p0, .int p1, .int p3, .int b4, .int p2]))] := hD
  have hP9 := hP.sub (ws' := [(h0, .inr (13, [.int p0, .int p1, .int p3, .int b4, .int p2]))]) [0] rfl
  have hD9 := hD.sub (ws' := [(h0, .inr (13, [.int p0, .int p1, .int p3, .int b4, .int p2]))]) [0] (by decide) rfl
  have hK9 := hK.sub (tys' := []) [] rfl
  refine W.widen (k := 0) (n := 0) (Nat.le_of_ble_eq_true rfl) (Nat.le_of_ble_eq_true rfl) ?_
  exact W.vret hx hb hr (fun t ht hW => ⟨⟨(), rfl, trivial, ⟨by rw [ht]; exact hP9, va_K.moved hW.alike hK9, hD9⟩⟩, hS.F ht⟩) hS.2.2 dX8_init_31
def v_c_X9_init : List Cond := .code yX9_init cX9_init 3 none :: ([.methodLink RX9 1 objectInit, .instanceMethod objectInit, .code objectInit ⟨#[0xb1]⟩ 1 none, .fieldLink RX9 7 "VoussoirYardModel$Mason" "free" "I", .fieldLink RX9 13 "VoussoirYardModel$Mason" "begun" "I", .fieldLink RX9 16 "VoussoirYardModel$Mason" "skill" "I", .fieldLink RX9 19 "VoussoirYardModel$Mason" "pay" "I"] ++ (wsX90))
set_option maxRecDepth 20000 in
theorem i_c_X9_init : ∀ w ∈ v_c_X9_init, w ∈ lw_tbl := List.forall_mem_cons.mpr ⟨List.mem_of_getElem? (i := 1735) (by decide +kernel), List.forall_mem_append.mpr ⟨List.forall_mem_cons.mpr ⟨List.mem_of_getElem? (i := 1736) (by decide +kernel), List.forall_mem_cons.mpr ⟨List.mem_of_getElem? (i := 94) (by decide +kernel), List.forall_mem_cons.mpr ⟨List.mem_of_getElem? (i := 95) (by decide +kernel), List.forall_mem_cons.mpr ⟨List.mem_of_getElem? (i := 1741) (by decide +kernel), List.forall_mem_cons.mpr ⟨List.mem_of_getElem? (i := 1743) (by decide +kernel), List.forall_mem_cons.mpr ⟨List.mem_of_getElem? (i := 1737) (by decide +kernel), List.forall_mem_cons.mpr ⟨List.mem_of_getElem? (i := 1739) (by decide +kernel), fun _ h => absurd h List.not_mem_nil⟩⟩⟩⟩⟩⟩⟩, inX9⟩⟩
set_option maxHeartbeats 4000000 in
set_option maxRecDepth 100000 in
theorem c_X9_init (l : Launch) (dC : Nat → ClassId) (dI : Nat → Nat → Nat) (e0 : Nat) (h0 : Nat) (p0 p1 : Int32) (sz : Nat) : Met l yX9_init v_c_X9_init ({ frames := 1, cells := 0, slots := 0, locals := 30 }) (fz_P (dC, dI) e0 [(h0, .inr (14, [.int 0, .int 0, .int 0, .int 0]))] [] sz (va_A [(h0, .inr (14, [.int 0, .int 0, .int 0, .int 0]))] sz) [.ref h0, .int p0, .int p1]) (va_Qv (fun (u : Unit) => True) (fun (u : Unit) (t : State) => va_P (dC, dI) vwCl [(h0, .inr (14, [.int p0, .int p1, .int 0, .int 0]))] t.heap ∧ va_K (dC, dI) vwCl [] t ∧ va_D (va_A [(h0, .inr (14, [.int 0, .int 0, .int 0, .int 0]))] sz) [(h0, .inr (14, [.int p0, .int p1, .int 0, .int 0]))]) (va_A [(h0, .inr (14, [.int 0, .int 0, .int 0, .int 0]))] sz)) 0 0 (va_A [(h0, .inr (14, [.int 0, .int 0, .int 0, .int 0]))] sz) := by
  refine Met.ofW (cc := cX9_init) (maxL := 3) (ret := none) (by decide) rfl ?_
  intro p e s m args below meth c s₁ B hml hv
  obtain ⟨rfl, hsz, hP, hK, hD0, hAm⟩ := hv
  have hx := B.exec
  have hb := B.bytes
  have hr := B.returns
  have hts := atoms_spec (ws := v_c_X9_init) B.pre
  have hown : s.vm.findClass RX9 = some m.cls := findClass_of_methodNamed B.named
  have hlocks := B.notSynchronized
  have hin : meth.name = "<init>" := (name_of_methodNamed B.named B.method).1
  subst hsz
  have hD := hD0.self (sz := s.heap.size)
  generalize hAe : va_A [(h0, .inr (14, [.int 0, .int 0, .int 0, .int 0]))] s.heap.size = A at hD hAm ⊢
  have hA : ∀ q : Nat, s.heap.size ≤ q → A q := fun q h => by rw [← hAe]; exact Or.inr h
  have hS : va_S A s.heap s.heap [] := va_S.rf
  have hP : va_P (dC, dI) vwCl [(h0, .inr (14, [.int 0, .int 0, .int 0, .int 0]))] s.heap := hP
  have hl := lv_entry ([.ref h0, .int p0, .int p1]) (n := 3) (Nat.le_of_ble_eq_true rfl)
  rw [lg_entry_eq]
  generalize (lg_sl ([.ref h0, .int p0, .int p1]) ++ List.replicate (3 - (lg_sl ([.ref h0, .int p0, .int p1])).length) Slot.unset).toArray = ls at hl ⊢
  have hl : lv_has ls 3 [(0, .ref h0), (1, .int p0), (2, .int p1)] := hl
  refine lv_aload_n hx hb dX9_init_0 rfl (lv_at hl 0 rfl) ?_
  refine W.objInit hx hb hown (hts _ (List.mem_cons_of_mem _ (List.mem_append_left _ (List.mem_of_getElem? (i := 0) rfl)))) (hts _ (List.mem_cons_of_mem _ (List.mem_append_left _ (List.mem_of_getElem? (i := 1) rfl)))) (hts _ (List.mem_cons_of_mem _ (List.mem_append_left _ (List.mem_of_getElem? (i := 2) rfl)))) rfl (by rw [hml]; exact hl.1) rfl dX9_init_1 (Nat.le_of_ble_eq_true rfl) (Nat.le_of_ble_eq_true rfl) ?_
  refine W.eq (g2 := F0 m 4 ls []) rfl ?_
  refine lv_aload_n hx hb dX9_init_4 rfl (lv_at hl 0 rfl) ?_
  refine lv_iconst (v := 0) hx hb dX9_init_5 (by decide) ?_
  refine va_put (D := (dC, dI)) (ci := 14) (v := .int 0) (ty := .int) (C := RX9) (T := TX9) (N := 4) hx hb hts (fun _ h9 => List.mem_cons_of_mem _ (List.mem_append_right _ (h9))) tyX9 tyX9_ok nmX9 hown hK hP hD hS 0 rfl rfl 2 (by decide) (hts _ (List.mem_cons_of_mem _ (List.mem_append_left _ (List.mem_of_getElem? (i := 3) rfl)))) (fun _ h9 => h9) rfl (by decide +kernel) rfl rfl (Nat.le_of_ble_eq_true rfl) dX9_init_6 (fun H locs hP hD hS => ?_)
  have hP : va_P (dC, dI) vwCl [(h0, .inr (14, [.int 0, .int 0, .int 0, .int 0]))] H := hP
  have hD : va_D A [(h0, .inr (14, [.int 0, .int 0, .int 0, .int 0]))] := hD
  refine lv_aload_n hx hb dX9_init_9 rfl (lv_at hl 0 rfl) ?_
  refine lv_iconst (v := 0) hx hb dX9_init_10 (by decide) ?_
  refine va_put (D := (dC, dI)) (ci := 14) (v := .int 0) (ty := .int) (C := RX9) (T := TX9) (N := 4) hx hb hts (fun _ h9 => List.mem_cons_of_mem _ (List.mem_append_right _ (h9))) tyX9 tyX9_ok nmX9 hown hK hP hD hS 0 rfl rfl 3 (by decide) (hts _ (List.mem_cons_of_mem _ (List.mem_append_left _ (List.mem_of_getElem? (i := 4) rfl)))) (fun _ h9 => h9) rfl (by decide +kernel) rfl rfl (Nat.le_of_ble_eq_true rfl) dX9_init_11 (fun H locs hP hD hS => ?_)
  have hP : va_P (dC, dI) vwCl [(h0, .inr (14, [.int 0, .int 0, .int 0, .int 0]))] H := hP
  have hD : va_D A [(h0, .inr (14, [.int 0, .int 0, .int 0, .int 0]))] := hD
  refine lv_aload_n hx hb dX9_init_14 rfl (lv_at hl 0 rfl) ?_
  refine lv_iload_n hx hb dX9_init_15 rfl (lv_at hl 1 rfl) ?_
  refine va_putF (D := (dC, dI)) (ci := 14) (v := .int p0) (ty := .int) (C := RX9) (T := TX9) (N := 4) hx hb hts (fun _ h9 => List.mem_cons_of_mem _ (List.mem_append_right _ (h9))) tyX9 tyX9_ok nmX9 hown hK hP hD hS 0 rfl rfl 0 (by decide) (hts _ (List.mem_cons_of_mem _ (List.mem_append_left _ (List.mem_of_getElem? (i := 5) rfl)))) (fun _ h9 => h9) rfl hin rfl (by decide +kernel) rfl rfl (Nat.le_of_ble_eq_true rfl) dX9_init_16 (fun H locs hP hD hS => ?_)
  have hP : va_P (dC, dI) vwCl [(h0, .inr (14, [.int p0, .int 0, .int 0, .int 0]))] H := hP
  have hD : va_D A [(h0, .inr (14, [.int p0, .int 0, .int 0, .int 0]))] := hD
  refine lv_aload_n hx hb dX9_init_19 rfl (lv_at hl 0 rfl) ?_
  refine lv_iload_n hx hb dX9_init_20 rfl (lv_at hl 2 rfl) ?_
  refine va_putF (D := (dC, dI)) (ci := 14) (v := .int p1) (ty := .int) (C := RX9) (T := TX9) (N := 4) hx hb hts (fun _ h9 => List.mem_cons_of_mem _ (List.mem_append_right _ (h9))) tyX9 tyX9_ok nmX9 hown hK hP hD hS 0 rfl rfl 1 (by decide) (hts _ (List.mem_cons_of_mem _ (List.mem_append_left _ (List.mem_of_getElem? (i := 6) rfl)))) (fun _ h9 => h9) rfl hin rfl (by decide +kernel) rfl rfl (Nat.le_of_ble_eq_true rfl) dX9_init_21 (fun H locs hP hD hS => ?_)
  have hP : va_P (dC, dI) vwCl [(h0, .inr (14, [.int p0, .int p1, .int 0, .int 0]))] H := hP
  have hD : va_D A [(h0, .inr (14, [.int p0, .int p1, .int 0, .int 0]))] := hD
  have hP9 := hP.sub (ws' := [(h0, .inr (14, [.int p0, .int p1, .int 0, .int 0]))]) [0] rfl
  have hD9 := hD.sub (ws' := [(h0, .inr (14, [.int p0, .int p1, .int 0, .int 0]))]) [0] (by decide) rfl
  have hK9 := hK.sub (tys' := []) [] rfl
  refine W.widen (k := 0) (n := 0) (Nat.le_of_ble_eq_true rfl) (Nat.le_of_ble_eq_true rfl) ?_
  exact W.vret hx hb hr (fun t ht hW => ⟨⟨(), rfl, trivial, ⟨by rw [ht]; exact hP9, va_K.moved hW.alike hK9, hD9⟩⟩, hS.F ht⟩) hS.2.2 dX9_init_24
def v_c_X11_init : List Cond := .code yX11_init cX11_init 1 none :: ([.methodLink RX11 1 objectInit, .instanceMethod objectInit, .code objectInit ⟨#[0xb1]⟩ 1 none, .classLink RX11 7 RJx4a65c, .instantiable RJx4a65c 3, .initialized RJx4a65c, .methodLink RX11 9 yJx4a65c_init_da8c8, .instanceMethod yJx4a65c_init_da8c8, .fieldLink RX11 10 "VoussoirYardModel" "joints" "Ljava/util/List;", .fieldLink RX11 16 "VoussoirYardModel" "quarry" "Ljava/util/List;", .fieldLink RX11 19 "VoussoirYardModel" "masons" "Ljava/util/List;", .fieldLink RX11 22 "VoussoirYardModel" "stones" "Ljava/util/List;", .arrayClass .int, .fieldLink RX11 25 "VoussoirYardModel" "filled" "[I", .fieldLink RX11 29 "VoussoirYardModel" "loads" "[I", .fieldLink RX11 32 "VoussoirYardModel" "density" "I", .fieldLink RX11 36 "VoussoirYardModel" "strength" "I"] ++ (wsJx4a65c0 ++ (v_c_Jx4_init ++ (wsX110))))
set_option maxRecDepth 20000 in
theorem i_c_X11_init : ∀ w ∈ v_c_X11_init, w ∈ lw_tbl := List.forall_mem_cons.mpr ⟨List.mem_of_getElem? (i := 1293) (by decide +kernel), List.forall_mem_append.mpr ⟨List.forall_mem_cons.mpr ⟨List.mem_of_getElem? (i := 1294) (by decide +kernel), List.forall_mem_cons.mpr ⟨List.mem_of_getElem? (i := 94) (by decide +kernel), List.forall_mem_cons.mpr ⟨List.mem_of_getElem? (i := 95) (by decide +kernel), List.forall_mem_cons.mpr ⟨List.mem_of_getElem? (i := 1295) (by decide +kernel), List.forall_mem_cons.mpr ⟨List.mem_of_getElem? (i := 1296) (by decide +kernel), List.forall_mem_cons.mpr ⟨List.mem_of_getElem? (i := 57) (by decide +kernel), List.forall_mem_cons.mpr ⟨List.mem_of_getElem? (i := 1297) (by decide +kernel), List.forall_mem_cons.mpr ⟨List.mem_of_getElem? (i := 1298) (by decide +kernel), List.forall_mem_cons.mpr ⟨List.mem_of_getElem? (i := 1324) (by decide +kernel), List.forall_mem_cons.mpr ⟨List.mem_of_getElem? (i := 1325) (by decide +kernel), List.forall_mem_cons.mpr ⟨List.mem_of_getElem? (i := 1326) (by decide +kernel), List.forall_mem_cons.mpr ⟨List.mem_of_getElem? (i := 1327) (by decide +kernel), List.forall_mem_cons.mpr ⟨List.mem_of_getElem? (i := 147) (by decide +kernel), List.forall_mem_cons.mpr ⟨List.mem_of_getElem? (i := 1328) (by decide +kernel), List.forall_mem_cons.mpr ⟨List.mem_of_getElem? (i := 1329) (by decide +kernel), List.forall_mem_cons.mpr ⟨List.mem_of_getElem? (i := 1332) (by decide +kernel), List.forall_mem_cons.mpr ⟨List.mem_of_getElem? (i := 1334) (by decide +kernel), fun _ h => absurd h List.not_mem_nil⟩⟩⟩⟩⟩⟩⟩⟩⟩⟩⟩⟩⟩⟩⟩⟩⟩, List.forall_mem_append.mpr ⟨inJx4a65c, List.forall_mem_append.mpr ⟨i_c_Jx4_init, inX11⟩⟩⟩⟩
set_option maxHeartbeats 4000000 in
set_option maxRecDepth 100000 in
theorem c_X11_init (l : Launch) (dC : Nat → ClassId) (dI : Nat → Nat → Nat) (e0 : Nat) (g0 : Nat) (sz : Nat) : Met l yX11_init v_c_X11_init ({ frames := 4, cells := 6, slots := 26, locals := 90 }) (fz_P (dC, dI) e0 [(g0, .inr (16, [.null, .null, .null, .null, .null, .null, .int 0, .int 0, .int 0, .int 0, .int 0, .int 0, .int 0, .int 0, .int 0, .int 0, .long 0]))] [] sz (va_A [(g0, .inr (16, [.null, .null, .null, .null, .null, .null, .int 0, .int 0, .int 0, .int 0, .int 0, .int 0, .int 0, .int 0, .int 0, .int 0, .long 0]))] sz) [.ref g0]) (va_Qv (fun (u : Unit) => True) (fun (u : Unit) (t : State) => ∃ mj : Nat, ∃ mq : Nat, ∃ mm : Nat, ∃ ms : Nat, ∃ mf : Nat, ∃ ml : Nat, ∃ cI : ClassId, ∃ ff : Nat → Int32, (∀ j : Nat, j < 7 → ff j = -1) ∧ va_P (dC, dI) vwCl [(g0, .inr (16, [.ref mj, .ref mq, .ref mm, .ref ms, .ref mf, .ref ml, .int 0, .int 0, .int 1, .int 0, .int (-1), .int 0, .int 0, .int 0, .int 0, .int 0, .long 0])), (mj, .inr (4, [.int 0, .ref e0, .int 0])), (mq, .inr (4, [.int 0, .ref e0, .int 0])), (mm, .inr (4, [.int 0, .ref e0, .int 0])), (ms, .inr (4, [.int 0, .ref e0, .int 0])), (mf, .inl (cI, 7, .inl ff))] t.heap ∧ va_K (dC, dI) vwCl [(cI, .int)] t ∧ va_D (va_A [(g0, .inr (16, [.null, .null, .null, .null, .null, .null, .int 0, .int 0, .int 0, .int 0, .int 0, .int 0, .int 0, .int 0, .int 0, .int 0, .long 0]))] sz) [(g0, .inr (16, [.ref mj, .ref mq, .ref mm, .ref ms, .ref mf, .ref ml, .int 0, .int 0, .int 1, .int 0, .int (-1), .int 0, .int 0, .int 0, .int 0, .int 0, .long 0])), (mj, .inr (4, [.int 0, .ref e0, .int 0])), (mq, .inr (4, [.int 0, .ref e0, .int 0])), (mm, .inr (4, [.int 0, .ref e0, .int 0])), (ms, .inr (4, [.int 0, .ref e0, .int 0])), (mf, .inl (cI, 7, .inl ff))]) (va_A [(g0, .inr (16, [.null, .null, .null, .null, .null, .null, .int 0, .int 0, .int 0, .int 0, .int 0, .int 0, .int 0, .int 0, .int 0, .int 0, .long 0]))] sz)) 6 26 (va_A [(g0, .inr (16, [.null, .null, .null, .null, .null, .null, .int 0, .int 0, .int 0, .int 0, .int 0, .int 0, .int 0, .int 0, .int 0, .int 0, .long 0]))] sz) := by
  refine Met.ofW (cc := cX11_init) (maxL := 1) (ret := none) (by decide) rfl ?_
  intro p e s m args below meth c s₁ B hml hv
  obtain ⟨rfl, hsz, hP, hK, hD0, hAm⟩ := hv
  have hx := B.exec
  have hb := B.bytes
  have hr := B.returns
  have hts := atoms_spec (ws := v_c_X11_init) B.pre
  have hown : s.vm.findClass RX11 = some m.cls := findClass_of_methodNamed B.named
  have hlocks := B.notSynchronized
  have hin : meth.name = "<init>" := (name_of_methodNamed B.named B.method).1
  subst hsz
  have hD := hD0.self (sz := s.heap.size)
  generalize hAe : va_A [(g0, .inr (16, [.null, .null, .null, .null, .null, .null, .int 0, .int 0, .int 0, .int 0, .int 0, .int 0, .int 0, .int 0, .int 0, .int 0, .long 0]))] s.heap.size = A at hD hAm ⊢
  have hA : ∀ q : Nat, s.heap.size ≤ q → A q := fun q h => by rw [← hAe]; exact Or.inr h
  have hS : va_S A s.heap s.heap [] := va_S.rf
  have hP : va_P (dC, dI) vwCl [(g0, .inr (16, [.null, .null, .null, .null, .null, .null, .int 0, .int 0, .int 0, .int 0, .int 0, .int 0, .int 0, .int 0, .int 0, .int 0, .long 0]))] s.heap := hP
  have hl := lv_entry ([.ref g0]) (n := 1) (Nat.le_of_ble_eq_true rfl)
  rw [lg_entry_eq]
  generalize (lg_sl ([.ref g0]) ++ List.replicate (1 - (lg_sl ([.ref g0])).length) Slot.unset).toArray = ls at hl ⊢
  have hl : lv_has ls 1 [(0, .ref g0)] := hl
  refine lv_aload_n hx hb dX11_init_0 rfl (lv_at hl 0 rfl) ?_
  refine W.objInit hx hb hown (hts _ (List.mem_cons_of_mem _ (List.mem_append_left _ (List.mem_of_getElem? (i := 0) rfl)))) (hts _ (List.mem_cons_of_mem _ (List.mem_append_left _ (List.mem_of_getElem? (i := 1) rfl)))) (hts _ (List.mem_cons_of_mem _ (List.mem_append_left _ (List.mem_of_getElem? (i := 2) rfl)))) rfl (by rw [hml]; exact hl.1) rfl dX11_init_1 (Nat.le_of_ble_eq_true rfl) (Nat.le_of_ble_eq_true rfl) ?_
  refine W.eq (g2 := F0 m 4 ls []) rfl ?_
  refine lv_aload_n hx hb dX11_init_4 rfl (lv_at hl 0 rfl) ?_
  refine va_new (ci := 4) (fs := [.int 0, .null, .int 0]) (C := RJx4a65c) (T := TJx4a65c) (N := 3) hx hb hts (fun _ h9 => List.mem_cons_of_mem _ (List.mem_append_right _ (List.mem_append_left _ h9))) tyJx4a65c tyJx4a65c_ok hown (hts _ (List.mem_cons_of_mem _ (List.mem_append_left _ (List.mem_of_getElem? (i := 3) rfl)))) (hts _ (List.mem_cons_of_mem _ (List.mem_append_left _ (List.mem_of_getElem? (i := 4) rfl)))) (hts _ (List.mem_cons_of_mem _ (List.mem_append_left _ (List.mem_of_getElem? (i := 5) rfl)))) hK hP hD hS hA rfl (fun j hj => by rcases (show j = 0 ∨ j = 1 ∨ j = 2 by omega) with rfl | rfl | rfl <;> rfl) (Nat.le_of_ble_eq_true rfl) (Nat.le_of_ble_eq_true rfl) dX11_init_5 (fun q_1 H hP hD hS => ?_)
  have hP : va_P (dC, dI) vwCl [(g0, .inr (16, [.null, .null, .null, .null, .null, .null, .int 0, .int 0, .int 0, .int 0, .int 0, .int 0, .int 0, .int 0, .int 0, .int 0, .long 0])), (q_1, .inr (4, [.int 0, .null, .int 0]))] H := hP
  have hD : va_D A [(g0, .inr (16, [.null, .null, .null, .null, .null, .null, .int 0, .int 0, .int 0, .int 0, .int 0, .int 0, .int 0, .int 0, .int 0, .int 0, .long 0])), (q_1, .inr (4, [.int 0, .null, .int 0]))] := hD
  refine W.widen (k := 1) (n := 3) (Nat.le_of_ble_eq_true rfl) (Nat.le_of_ble_eq_true rfl) ?_
  refine lv_dup hx hb dX11_init_8 rfl ?_
  have hPc := hP.sub (ws' := [(q_1, .inr (4, [.int 0, .null, .int 0]))]) [1] rfl
  have hDc := hD.sub (ws' := [(q_1, .inr (4, [.int 0, .null, .int 0]))]) [1] (by decide) rfl
  have hKc := hK.sub (tys' := []) [] rfl
  have hFc := va_free (wc := [(q_1, .inr (4, [.int 0, .null, .int 0]))]) hD hS hA [1] rfl
  refine va_callv (va_runI (As := []) (rest := [.ref q_1, .ref g0]) ⟨hx, hb, hml, hown, hts⟩ (c_Jx4_init l dC dI e0 q_1 H.size) (cwI 0 hts (goodIn_sub (fun _ h9 => List.mem_cons_of_mem _ (List.mem_append_right _ (List.mem_append_right _ (List.mem_append_left _ h9)))) (by decide +kernel)) rfl rfl rfl (hts _ (List.mem_cons_of_mem _ (List.mem_append_left _ (List.mem_of_getElem? (i := 5) rfl)))) (hts _ (List.mem_cons_of_mem _ (List.mem_append_left _ (List.mem_of_getElem? (i := 6) rfl)))) (hts _ (List.mem_cons_of_mem _ (List.mem_append_left _ (List.mem_of_getElem? (i := 7) rfl)))) rfl (by decide +kernel) ⟨(Nat.le_of_ble_eq_true rfl), (Nat.le_of_ble_eq_true rfl)⟩) ⟨fz_blind, fz_pre hPc hKc hDc hAm hS hFc⟩ rfl rfl hl.1 rfl (lv_room (Nat.le_of_ble_eq_true rfl)) dX11_init_9 ⟨(Nat.le_of_ble_eq_true rfl), (Nat.le_of_ble_eq_true rfl)⟩) hS (fun q _ h => hFc q h) hFc (fun u t H1 locs ht hvm hw hB hz1 hk1 hS => ?_)
  obtain ⟨hP1, hK1, hD1⟩ := hB
  rw [ht] at hP1
  have hK1 := va_K.moved hvm.symm hK1
  obtain ⟨hP, hD⟩ := va_join (wr := [(g0, .inr (16, [.null, .null, .null, .null, .null, .null, .int 0, .int 0, .int 0, .int 0, .int 0, .int 0, .int 0, .int 0, .int 0, .int 0, .long 0]))]) (w1 := [(q_1, .inr (4, [.int 0, .ref e0, .int 0]))]) hP hD [1] [0] rfl rfl (by decide) (by decide) hk1 hFc hP1 hD1
  generalize H1 = H at hP hS ⊢
  have hP : va_P (dC, dI) vwCl [(g0, .inr (16, [.null, .null, .null, .null, .null, .null, .int 0, .int 0, .int 0, .int 0, .int 0, .int 0, .int 0, .int 0, .int 0, .int 0, .long 0])), (q_1, .inr (4, [.int 0, .ref e0, .int 0]))] H := hP
  have hD : va_D A [(g0, .inr (16, [.null, .null, .null, .null, .null, .null, .int 0, .int 0, .int 0, .int 0, .int 0, .int 0, .int 0, .int 0, .int 0, .int 0, .long 0])), (q_1, .inr (4, [.int 0, .ref e0, .int 0]))] := hD
  have hK : va_K (dC, dI) vwCl [] s := hK
  refine W.widen (k := 1) (n := 3) (Nat.le_of_ble_eq_true rfl) (Nat.le_of_ble_eq_true rfl) ?_
  refine va_putF (D := (dC, dI)) (ci := 16) (v := .ref q_1) (ty := .object "java/util/List") (C := RX11) (T := TX11) (N := 17) hx hb hts (fun _ h9 => List.mem_cons_of_mem _ (List.mem_append_right _ (List.mem_append_right _ (List.mem_append_right _ h9)))) tyX11 tyX11_ok nmX11 hown hK hP hD hS 0 rfl rfl 0 (by decide) (hts _ (List.mem_cons_of_mem _ (List.mem_append_left _ (List.mem_of_getElem? (i := 8) rfl)))) (fun _ h9 => h9) rfl hin rfl (by decide +kernel) rfl rfl (Nat.le_of_ble_eq_true rfl) dX11_init_12 (fun H locs hP hD hS => ?_)
  have hP : va_P (dC, dI) vwCl [(g0, .inr (16, [.ref q_1, .null, .null, .null, .null, .null, .int 0, .int 0, .int 0, .int 0, .int 0, .int 0, .int 0, .int 0, .int 0, .int 0, .long 0])), (q_1, .inr (4, [.int 0, .ref e0, .int 0]))] H := hP
  have hD : va_D A [(g0, .inr (16, [.ref q_1, .null, .null, .null, .null, .null, .int 0, .int 0, .int 0, .int 0, .int 0, .int 0, .int 0, .int 0, .int 0, .int 0, .long 0])), (q_1, .inr (4, [.int 0, .ref e0, .int 0]))] := hD
  refine lv_aload_n hx hb dX11_init_15 rfl (lv_at hl 0 rfl) ?_
  refine va_new (ci := 4) (fs := [.int 0, .null, .int 0]) (C := RJx4a65c) (T := TJx4a65c) (N := 3) hx hb hts (fun _ h9 => List.mem_cons_of_mem _ (List.mem_append_right _ (List.mem_append_left _ h9))) tyJx4a65c tyJx4a65c_ok hown (hts _ (List.mem_cons_of_mem _ (List.mem_append_left _ (List.mem_of_getElem? (i := 3) rfl)))) (hts _ (List.mem_cons_of_mem _ (List.mem_append_left _ (List.mem_of_getElem? (i := 4) rfl)))) (hts _ (List.mem_cons_of_mem _ (List.mem_append_left _ (List.mem_of_getElem? (i := 5) rfl)))) hK hP hD hS hA rfl (fun j hj => by rcases (show j = 0 ∨ j = 1 ∨ j = 2 by omega) with rfl | rfl | rfl <;> rfl) (Nat.le_of_ble_eq_true rfl) (Nat.le_of_ble_eq_true rfl) dX11_init_16 (fun q_2 H hP hD hS => ?_)
  have hP : va_P (dC, dI) vwCl [(g0, .inr (16, [.ref q_1, .null, .null, .null, .null, .null, .int 0, .int 0, .int 0, .int 0, .int 0, .int 0, .int 0, .int 0, .int 0, .int 0, .long 0])), (q_1, .inr (4, [.int 0, .ref e0, .int 0])), (q_2, .inr (4, [.int 0, .null, .int 0]))] H := hP
  have hD : va_D A [(g0, .inr (16, [.ref q_1, .null, .null, .null, .null, .null, .int 0, .int 0, .int 0, .int 0, .int 0, .int 0, .int 0, .int 0, .int 0, .int 0, .long 0])), (q_1, .inr (4, [.int 0, .ref e0, .int 0])), (q_2, .inr (4, [.int 0, .null, .int 0]))] := hD
  refine W.widen (k := 2) (n := 6) (Nat.le_of_ble_eq_true rfl) (Nat.le_of_ble_eq_true rfl) ?_
  refine lv_dup hx hb dX11_init_19 rfl ?_
  have hPc := hP.sub (ws' := [(q_2, .inr (4, [.int 0, .null, .int 0]))]) [2] rfl
  have hDc := hD.sub (ws' := [(q_2, .inr (4, [.int 0, .null, .int 0]))]) [2] (by decide) rfl
  have hKc := hK.sub (tys' := []) [] rfl
  have hFc := va_free (wc := [(q_2, .inr (4, [.int 0, .null, .int 0]))]) hD hS hA [2] rfl
  refine va_callv (va_runI (As := []) (rest := [.ref q_2, .ref g0]) ⟨hx, hb, hml, hown, hts⟩ (c_Jx4_init l dC dI e0 q_2 H.size) (cwI 0 hts (goodIn_sub (fun _ h9 => List.mem_cons_of_mem _ (List.mem_append_right _ (List.mem_append_right _ (List.mem_append_left _ h9)))) (by decide +kernel)) rfl rfl rfl (hts _ (List.mem_cons_of_mem _ (List.mem_append_left _ (List.mem_of_getElem? (i := 5) rfl)))) (hts _ (List.mem_cons_of_mem _ (List.mem_append_left _ (List.mem_of_getElem? (i := 6) rfl)))) (hts _ (List.mem_cons_of_mem _ (List.mem_append_left _ (List.mem_of_getElem? (i := 7) rfl)))) rfl (by decide +kernel) ⟨(Nat.le_of_ble_eq_true rfl), (Nat.le_of_ble_eq_true rfl)⟩) ⟨fz_blind, fz_pre hPc hKc hDc hAm hS hFc⟩ rfl rfl hl.1 rfl (lv_room (Nat.le_of_ble_eq_true rfl)) dX11_init_20 ⟨(Nat.le_of_ble_eq_true rfl), (Nat.le_of_ble_eq_true rfl)⟩) hS (fun q _ h => hFc q h) hFc (fun u t H1 locs ht hvm hw hB hz1 hk1 hS => ?_)
  obtain ⟨hP1, hK1, hD1⟩ := hB
  rw [ht] at hP1
  have hK1 := va_K.moved hvm.symm hK1
  obtain ⟨hP, hD⟩ := va_join (wr := [(g0, .inr (16, [.ref q_1, .null, .null, .null, .null, .null, .int 0, .int 0, .int 0, .int 0, .int 0, .int 0, .int 0, .int 0, .int 0, .int 0, .long 0])), (q_1, .inr (4, [.int 0, .ref e0, .int 0]))]) (w1 := [(q_2, .inr (4, [.int 0, .ref e0, .int 0]))]) hP hD [2] [0, 1] rfl rfl (by decide) (by decide) hk1 hFc hP1 hD1
  generalize H1 = H at hP hS ⊢
  have hP : va_P (dC, dI) vwCl [(g0, .inr (16, [.ref q_1, .null, .null, .null, .null, .null, .int 0, .int 0, .int 0, .int 0, .int 0, .int 0, .int 0, .int 0, .int 0, .int 0, .long 0])), (q_1, .inr (4, [.int 0, .ref e0, .int 0])), (q_2, .inr (4, [.int 0, .ref e0, .int 0]))] H := hP
  have hD : va_D A [(g0, .inr (16, [.ref q_1, .null, .null, .null, .null, .null, .int 0, .int 0, .int 0, .int 0, .int 0, .int 0, .int 0, .int 0, .int 0, .int 0, .long 0])), (q_1, .inr (4, [.int 0, .ref e0, .int 0])), (q_2, .inr (4, [.int 0, .ref e0, .int 0]))] := hD
  have hK : va_K (dC, dI) vwCl [] s := hK
  refine W.widen (k := 2) (n := 6) (Nat.le_of_ble_eq_true rfl) (Nat.le_of_ble_eq_true rfl) ?_
  refine va_putF (D := (dC, dI)) (ci := 16) (v := .ref q_2) (ty := .object "java/util/List") (C := RX11) (T := TX11) (N := 17) hx hb hts (fun _ h9 => List.mem_cons_of_mem _ (List.mem_append_right _ (List.mem_append_right _ (List.mem_append_right _ h9)))) tyX11 tyX11_ok nmX11 hown hK hP hD hS 0 rfl rfl 1 (by decide) (hts _ (List.mem_cons_of_mem _ (List.mem_append_left _ (List.mem_of_getElem? (i := 9) rfl)))) (fun _ h9 => h9) rfl hin rfl (by decide +kernel) rfl rfl (Nat.le_of_ble_eq_true rfl) dX11_init_23 (fun H locs hP hD hS => ?_)
  have hP : va_P (dC, dI) vwCl [(g0, .inr (16, [.ref q_1, .ref q_2, .null, .null, .null, .null, .int 0, .int 0, .int 0, .int 0, .int 0, .int 0, .int 0, .int 0, .int 0, .int 0, .long 0])), (q_1, .inr (4, [.int 0, .ref e0, .int 0])), (q_2, .inr (4, [.int 0, .ref e0, .int 0]))] H := hP
  have hD : va_D A [(g0, .inr (16, [.ref q_1, .ref q_2, .null, .null, .null, .null, .int 0, .int 0, .int 0, .int 0, .int 0, .int 0, .int 0, .int 0, .int 0, .int 0, .long 0])), (q_1, .inr (4, [.int 0, .ref e0, .int 0])), (q_2, .inr (4, [.int 0, .ref e0, .int 0]))] := hD
  refine lv_aload_n hx hb dX11_init_26 rfl (lv_at hl 0 rfl) ?_
  refine va_new (ci := 4) (fs := [.int 0, .null, .int 0]) (C := RJx4a65c) (T := TJx4a65c) (N := 3) hx hb hts (fun _ h9 => List.mem_cons_of_mem _ (List.mem_append_right _ (List.mem_append_left _ h9))) tyJx4a65c tyJx4a65c_ok hown (hts _ (List.mem_cons_of_mem _ (List.mem_append_left _ (List.mem_of_getElem? (i := 3) rfl)))) (hts _ (List.mem_cons_of_mem _ (List.mem_append_left _ (List.mem_of_getElem? (i := 4) rfl)))) (hts _ (List.mem_cons_of_mem _ (List.mem_append_left _ (List.mem_of_getElem? (i := 5) rfl)))) hK hP hD hS hA rfl (fun j hj => by rcases (show j = 0 ∨ j = 1 ∨ j = 2 by omega) with rfl | rfl | rfl <;> rfl) (Nat.le_of_ble_eq_true rfl) (Nat.le_of_ble_eq_true rfl) dX11_init_27 (fun q_3 H hP hD hS => ?_)
  have hP : va_P (dC, dI) vwCl [(g0, .inr (16, [.ref q_1, .ref q_2, .null, .null, .null, .null, .int 0, .int 0, .int 0, .int 0, .int 0, .int 0, .int 0, .int 0, .int 0, .int 0, .long 0])), (q_1, .inr (4, [.int 0, .ref e0, .int 0])), (q_2, .inr (4, [.int 0, .ref e0, .int 0])), (q_3, .inr (4, [.int 0, .null, .int 0]))] H := hP
  have hD : va_D A [(g0, .inr (16, [.ref q_1, .ref q_2, .null, .null, .null, .null, .int 0, .int 0, .int 0, .int 0, .int 0, .int 0, .int 0, .int 0, .int 0, .int 0, .long 0])), (q_1, .inr (4, [.int 0, .ref e0, .int 0])), (q_2, .inr (4, [.int 0, .ref e0, .int 0])), (q_3, .inr (4, [.int 0, .null, .int 0]))] := hD
  refine W.widen (k := 3) (n := 9) (Nat.le_of_ble_eq_true rfl) (Nat.le_of_ble_eq_true rfl) ?_
  refine lv_dup hx hb dX11_init_30 rfl ?_
  have hPc := hP.sub (ws' := [(q_3, .inr (4, [.int 0, .null, .int 0]))]) [3] rfl
  have hDc := hD.sub (ws' := [(q_3, .inr (4, [.int 0, .null, .int 0]))]) [3] (by decide) rfl
  have hKc := hK.sub (tys' := []) [] rfl
  have hFc := va_free (wc := [(q_3, .inr (4, [.int 0, .null, .int 0]))]) hD hS hA [3] rfl
  refine va_callv (va_runI (As := []) (rest := [.ref q_3, .ref g0]) ⟨hx, hb, hml, hown, hts⟩ (c_Jx4_init l dC dI e0 q_3 H.size) (cwI 0 hts (goodIn_sub (fun _ h9 => List.mem_cons_of_mem _ (List.mem_append_right _ (List.mem_append_right _ (List.mem_append_left _ h9)))) (by decide +kernel)) rfl rfl rfl (hts _ (List.mem_cons_of_mem _ (List.mem_append_left _ (List.mem_of_getElem? (i := 5) rfl)))) (hts _ (List.mem_cons_of_mem _ (List.mem_append_left _ (List.mem_of_getElem? (i := 6) rfl)))) (hts _ (List.mem_cons_of_mem _ (List.mem_append_left _ (List.mem_of_getElem? (i := 7) rfl)))) rfl (by decide +kernel) ⟨(Nat.le_of_ble_eq_true rfl), (Nat.le_of_ble_eq_true rfl)⟩) ⟨fz_blind, fz_pre hPc hKc hDc hAm hS hFc⟩ rfl rfl hl.1 rfl (lv_room (Nat.le_of_ble_eq_true rfl)) dX11_init_31 ⟨(Nat.le_of_ble_eq_true rfl), (Nat.le_of_ble_eq_true rfl)⟩) hS (fun q _ h => hFc q h) hFc (fun u t H1 locs ht hvm hw hB hz1 hk1 hS => ?_)
  obtain ⟨hP1, hK1, hD1⟩ := hB
  rw [ht] at hP1
  have hK1 := va_K.moved hvm.symm hK1
  obtain ⟨hP, hD⟩ := va_join (wr := [(g0, .inr (16, [.ref q_1, .ref q_2, .null, .null, .null, .null, .int 0, .int 0, .int 0, .int 0, .int 0, .int 0, .int 0, .int 0, .int 0, .int 0, .long 0])), (q_1, .inr (4, [.int 0, .ref e0, .int 0])), (q_2, .inr (4, [.int 0, .ref e0, .int 0]))]) (w1 := [(q_3, .inr (4, [.int 0, .ref e0, .int 0]))]) hP hD [3] [0, 1, 2] rfl rfl (by decide) (by decide) hk1 hFc hP1 hD1
  generalize H1 = H at hP hS ⊢
  have hP : va_P (dC, dI) vwCl [(g0, .inr (16, [.ref q_1, .ref q_2, .null, .null, .null, .null, .int 0, .int 0, .int 0, .int 0, .int 0, .int 0, .int 0, .int 0, .int 0, .int 0, .long 0])), (q_1, .inr (4, [.int 0, .ref e0, .int 0])), (q_2, .inr (4, [.int 0, .ref e0, .int 0])), (q_3, .inr (4, [.int 0, .ref e0, .int 0]))] H := hP
  have hD : va_D A [(g0, .inr (16, [.ref q_1, .ref q_2, .null, .null, .null, .null, .int 0, .int 0, .int 0, .int 0, .int 0, .int 0, .int 0, .int 0, .int 0, .int 0, .long 0])), (q_1, .inr (4, [.int 0, .ref e0, .int 0])), (q_2, .inr (4, [.int 0, .ref e0, .int 0])), (q_3, .inr (4, [.int 0, .ref e0, .int 0]))] := hD
  have hK : va_K (dC, dI) vwCl [] s := hK
  refine W.widen (k := 3) (n := 9) (Nat.le_of_ble_eq_true rfl) (Nat.le_of_ble_eq_true rfl) ?_
  refine va_putF (D := (dC, dI)) (ci := 16) (v := .ref q_3) (ty := .object "java/util/List") (C := RX11) (T := TX11) (N := 17) hx hb hts (fun _ h9 => List.mem_cons_of_mem _ (List.mem_append_right _ (List.mem_append_right _ (List.mem_append_right _ h9)))) tyX11 tyX11_ok nmX11 hown hK hP hD hS 0 rfl rfl 2 (by decide) (hts _ (List.mem_cons_of_mem _ (List.mem_append_left _ (List.mem_of_getElem? (i := 10) rfl)))) (fun _ h9 => h9) rfl hin rfl (by decide +kernel) rfl rfl (Nat.le_of_ble_eq_true rfl) dX11_init_34 (fun H locs hP hD hS => ?_)
  have hP : va_P (dC, dI) vwCl [(g0, .inr (16, [.ref q_1, .ref q_2, .ref q_3, .null, .null, .null, .int 0, .int 0, .int 0, .int 0, .int 0, .int 0, .int 0, .int 0, .int 0, .int 0, .long 0])), (q_1, .inr (4, [.int 0, .ref e0, .int 0])), (q_2, .inr (4, [.int 0, .ref e0, .int 0])), (q_3, .inr (4, [.int 0, .ref e0, .int 0]))] H := hP
  have hD : va_D A [(g0, .inr (16, [.ref q_1, .ref q_2, .ref q_3, .null, .null, .null, .int 0, .int 0, .int 0, .int 0, .int 0, .int 0, .int 0, .int 0, .int 0, .int 0, .long 0])), (q_1, .inr (4, [.int 0, .ref e0, .int 0])), (q_2, .inr (4, [.int 0, .ref e0, .int 0])), (q_3, .inr (4, [.int 0, .ref e0, .int 0]))] := hD
  refine lv_aload_n hx hb dX11_init_37 rfl (lv_at hl 0 rfl) ?_
  refine va_new (ci := 4) (fs := [.int 0, .null, .int 0]) (C := RJx4a65c) (T := TJx4a65c) (N := 3) hx hb hts (fun _ h9 => List.mem_cons_of_mem _ (List.mem_append_right _ (List.mem_append_left _ h9))) tyJx4a65c tyJx4a65c_ok hown (hts _ (List.mem_cons_of_mem _ (List.mem_append_left _ (List.mem_of_getElem? (i := 3) rfl)))) (hts _ (List.mem_cons_of_mem _ (List.mem_append_left _ (List.mem_of_getElem? (i := 4) rfl)))) (hts _ (List.mem_cons_of_mem _ (List.mem_append_left _ (List.mem_of_getElem? (i := 5) rfl)))) hK hP hD hS hA rfl (fun j hj => by rcases (show j = 0 ∨ j = 1 ∨ j = 2 by omega) with rfl | rfl | rfl <;> rfl) (Nat.le_of_ble_eq_true rfl) (Nat.le_of_ble_eq_true rfl) dX11_init_38 (fun q_4 H hP hD hS => ?_)
  have hP : va_P (dC, dI) vwCl [(g0, .inr (16, [.ref q_1, .ref q_2, .ref q_3, .null, .null, .null, .int 0, .int 0, .int 0, .int 0, .int 0, .int 0, .int 0, .int 0, .int 0, .int 0, .long 0])), (q_1, .inr (4, [.int 0, .ref e0, .int 0])), (q_2, .inr (4, [.int 0, .ref e0, .int 0])), (q_3, .inr (4, [.int 0, .ref e0, .int 0])), (q_4, .inr (4, [.int 0, .null, .int 0]))] H := hP
  have hD : va_D A [(g0, .inr (16, [.ref q_1, .ref q_2, .ref q_3, .null, .null, .null, .int 0, .int 0, .int 0, .int 0, .int 0, .int 0, .int 0, .int 0, .int 0, .int 0, .long 0])), (q_1, .inr (4, [.int 0, .ref e0, .int 0])), (q_2, .inr (4, [.int 0, .ref e0, .int 0])), (q_3, .inr (4, [.int 0, .ref e0, .int 0])), (q_4, .inr (4, [.int 0, .null, .int 0]))] := hD
  refine W.widen (k := 4) (n := 12) (Nat.le_of_ble_eq_true rfl) (Nat.le_of_ble_eq_true rfl) ?_
  refine lv_dup hx hb dX11_init_41 rfl ?_
  have hPc := hP.sub (ws' := [(q_4, .inr (4, [.int 0, .null, .int 0]))]) [4] rfl
  have hDc := hD.sub (ws' := [(q_4, .inr (4, [.int 0, .null, .int 0]))]) [4] (by decide) rfl
  have hKc := hK.sub (tys' := []) [] rfl
  have hFc := va_free (wc := [(q_4, .inr (4, [.int 0, .null, .int 0]))]) hD hS hA [4] rfl
  refine va_callv (va_runI (As := []) (rest := [.ref q_4, .ref g0]) ⟨hx, hb, hml, hown, hts⟩ (c_Jx4_init l dC dI e0 q_4 H.size) (cwI 0 hts (goodIn_sub (fun _ h9 => List.mem_cons_of_mem _ (List.mem_append_right _ (List.mem_append_right _ (List.mem_append_left _ h9)))) (by decide +kernel)) rfl rfl rfl (hts _ (List.mem_cons_of_mem _ (List.mem_append_left _ (List.mem_of_getElem? (i := 5) rfl)))) (hts _ (List.mem_cons_of_mem _ (List.mem_append_left _ (List.mem_of_getElem? (i := 6) rfl)))) (hts _ (List.mem_cons_of_mem _ (List.mem_append_left _ (List.mem_of_getElem? (i := 7) rfl)))) rfl (by decide +kernel) ⟨(Nat.le_of_ble_eq_true rfl), (Nat.le_of_ble_eq_true rfl)⟩) ⟨fz_blind, fz_pre hPc hKc hDc hAm hS hFc⟩ rfl rfl hl.1 rfl (lv_room (Nat.le_of_ble_eq_true rfl)) dX11_init_42 ⟨(Nat.le_of_ble_eq_true rfl), (Nat.le_of_ble_eq_true rfl)⟩) hS (fun q _ h => hFc q h) hFc (fun u t H1 locs ht hvm hw hB hz1 hk1 hS => ?_)
  obtain ⟨hP1, hK1, hD1⟩ := hB
  rw [ht] at hP1
  have hK1 := va_K.moved hvm.symm hK1
  obtain ⟨hP, hD⟩ := va_join (wr := [(g0, .inr (16, [.ref q_1, .ref q_2, .ref q_3, .null, .null, .null, .int 0, .int 0, .int 0, .int 0, .int 0, .int 0, .int 0, .int 0, .int 0, .int 0, .long 0])), (q_1, .inr (4, [.int 0, .ref e0, .int 0])), (q_2, .inr (4, [.int 0, .ref e0, .int 0])), (q_3, .inr (4, [.int 0, .ref e0, .int 0]))]) (w1 := [(q_4, .inr (4, [.int 0, .ref e0, .int 0]))]) hP hD [4] [0, 1, 2, 3] rfl rfl (by decide) (by decide) hk1 hFc hP1 hD1
  generalize H1 = H at hP hS ⊢
  have hP : va_P (dC, dI) vwCl [(g0, .inr (16, [.ref q_1, .ref q_2, .ref q_3, .null, .null, .null, .int 0, .int 0, .int 0, .int 0, .int 0, .int 0, .int 0, .int 0, .int 0, .int 0, .long 0])), (q_1, .inr (4, [.int 0, .ref e0, .int 0])), (q_2, .inr (4, [.int 0, .ref e0, .int 0])), (q_3, .inr (4, [.int 0, .ref e0, .int 0])), (q_4, .inr (4, [.int 0, .ref e0, .int 0]))] H := hP
  have hD : va_D A [(g0, .inr (16, [.ref q_1, .ref q_2, .ref q_3, .null, .null, .null, .int 0, .int 0, .int 0, .int 0, .int 0, .int 0, .int 0, .int 0, .int 0, .int 0, .long 0])), (q_1, .inr (4, [.int 0, .ref e0, .int 0])), (q_2, .inr (4, [.int 0, .ref e0, .int 0])), (q_3, .inr (4, [.int 0, .ref e0, .int 0])), (q_4, .inr (4, [.int 0, .ref e0, .int 0]))] := hD
  have hK : va_K (dC, dI) vwCl [] s := hK
  refine W.widen (k := 4) (n := 12) (Nat.le_of_ble_eq_true rfl) (Nat.le_of_ble_eq_true rfl) ?_
  refine va_putF (D := (dC, dI)) (ci := 16) (v := .ref q_4) (ty := .object "java/util/List") (C := RX11) (T := TX11) (N := 17) hx hb hts (fun _ h9 => List.mem_cons_of_mem _ (List.mem_append_right _ (List.mem_append_right _ (List.mem_append_right _ h9)))) tyX11 tyX11_ok nmX11 hown hK hP hD hS 0 rfl rfl 3 (by decide) (hts _ (List.mem_cons_of_mem _ (List.mem_append_left _ (List.mem_of_getElem? (i := 11) rfl)))) (fun _ h9 => h9) rfl hin rfl (by decide +kernel) rfl rfl (Nat.le_of_ble_eq_true rfl) dX11_init_45 (fun H locs hP hD hS => ?_)
  have hP : va_P (dC, dI) vwCl [(g0, .inr (16, [.ref q_1, .ref q_2, .ref q_3, .ref q_4, .null, .null, .int 0, .int 0, .int 0, .int 0, .int 0, .int 0, .int 0, .int 0, .int 0, .int 0, .long 0])), (q_1, .inr (4, [.int 0, .ref e0, .int 0])), (q_2, .inr (4, [.int 0, .ref e0, .int 0])), (q_3, .inr (4, [.int 0, .ref e0, .int 0])), (q_4, .inr (4, [.int 0, .ref e0, .int 0]))] H := hP
  have hD : va_D A [(g0, .inr (16, [.ref q_1, .ref q_2, .ref q_3, .ref q_4, .null, .null, .int 0, .int 0, .int 0, .int 0, .int 0, .int 0, .int 0, .int 0, .int 0, .int 0, .long 0])), (q_1, .inr (4, [.int 0, .ref e0, .int 0])), (q_2, .inr (4, [.int 0, .ref e0, .int 0])), (q_3, .inr (4, [.int 0, .ref e0, .int 0])), (q_4, .inr (4, [.int 0, .ref e0, .int 0]))] := hD
  refine lv_aload_n hx hb dX11_init_48 rfl (lv_at hl 0 rfl) ?_
  refine lv_bipush (v := 7) hx hb dX11_init_49 (by decide) ?_
  refine va_newa (atype := .int) (ty := .int) (a0 := (7, .inl (fun _ => 0))) (N' := 7) hx hb (hts _ (List.mem_cons_of_mem _ (List.mem_append_left _ (List.mem_of_getElem? (i := 12) rfl)))) rfl hK hP hD hS hA (fun _ => rfl) (by decide) (by decide) (by decide) (Nat.le_of_ble_eq_true rfl) (Nat.le_of_ble_eq_true rfl) dX11_init_51 (fun q_5 cA_5 H hK hP hD hS => ?_)
  have hK : va_K (dC, dI) vwCl [(cA_5, .int)] s := hK
  have hP : va_P (dC, dI) vwCl [(g0, .inr (16, [.ref q_1, .ref q_2, .ref q_3, .ref q_4, .null, .null, .int 0, .int 0, .int 0, .int 0, .int 0, .int 0, .int 0, .int 0, .int 0, .int 0, .long 0])), (q_1, .inr (4, [.int 0, .ref e0, .int 0])), (q_2, .inr (4, [.int 0, .ref e0, .int 0])), (q_3, .inr (4, [.int 0, .ref e0, .int 0])), (q_4, .inr (4, [.int 0, .ref e0, .int 0])), (q_5, .inl (cA_5, 7, .inl (fun _ => 0)))] H := hP
  have hD : va_D A [(g0, .inr (16, [.ref q_1, .ref q_2, .ref q_3, .ref q_4, .null, .null, .int 0, .int 0, .int 0, .int 0, .int 0, .int 0, .int 0, .int 0, .int 0, .int 0, .long 0])), (q_1, .inr (4, [.int 0, .ref e0, .int 0])), (q_2, .inr (4, [.int 0, .ref e0, .int 0])), (q_3, .inr (4, [.int 0, .ref e0, .int 0])), (q_4, .inr (4, [.int 0, .ref e0, .int 0])), (q_5, .inl (cA_5, 7, .inl (fun _ => 0)))] := hD
  refine W.widen (k := 5) (n := 19) (Nat.le_of_ble_eq_true rfl) (Nat.le_of_ble_eq_true rfl) ?_
  refine lv_dup hx hb dX11_init_53 rfl ?_
  refine lv_iconst (v := 0) hx hb dX11_init_54 (by decide) ?_
  refine lv_iconst (v := (-1)) hx hb dX11_init_55 (by decide) ?_
  refine va_iast hx hb hK hP hD hS 5 0 rfl rfl (fz_il (by decide)) dX11_init_56 (fun H locs hP hD hS => ?_)
  have hP : va_P (dC, dI) vwCl [(g0, .inr (16, [.ref q_1, .ref q_2, .ref q_3, .ref q_4, .null, .null, .int 0, .int 0, .int 0, .int 0, .int 0, .int 0, .int 0, .int 0, .int 0, .int 0, .long 0])), (q_1, .inr (4, [.int 0, .ref e0, .int 0])), (q_2, .inr (4, [.int 0, .ref e0, .int 0])), (q_3, .inr (4, [.int 0, .ref e0, .int 0])), (q_4, .inr (4, [.int 0, .ref e0, .int 0])), (q_5, .inl (cA_5, 7, .inl (upd (fun _ => 0) (0 : Int32).toNatClampNeg (-1))))] H := hP
  have hD : va_D A [(g0, .inr (16, [.ref q_1, .ref q_2, .ref q_3, .ref q_4, .null, .null, .int 0, .int 0, .int 0, .int 0, .int 0, .int 0, .int 0, .int 0, .int 0, .int 0, .long 0])), (q_1, .inr (4, [.int 0, .ref e0, .int 0])), (q_2, .inr (4, [.int 0, .ref e0, .int 0])), (q_3, .inr (4, [.int 0, .ref e0, .int 0])), (q_4, .inr (4, [.int 0, .ref e0, .int 0])), (q_5, .inl (cA_5, 7, .inl (upd (fun _ => 0) (0 : Int32).toNatClampNeg (-1))))] := hD
  refine lv_dup hx hb dX11_init_57 rfl ?_
  refine lv_iconst (v := 1) hx hb dX11_init_58 (by decide) ?_
  refine lv_iconst (v := (-1)) hx hb dX11_init_59 (by decide) ?_
  refine va_iast hx hb hK hP hD hS 5 0 rfl rfl (fz_il (by decide)) dX11_init_60 (fun H locs hP hD hS => ?_)
  have hP : va_P (dC, dI) vwCl [(g0, .inr (16, [.ref q_1, .ref q_2, .ref q_3, .ref q_4, .null, .null, .int 0, .int 0, .int 0, .int 0, .int 0, .int 0, .int 0, .int 0, .int 0, .int 0, .long 0])), (q_1, .inr (4, [.int 0, .ref e0, .int 0])), (q_2, .inr (4, [.int 0, .ref e0, .int 0])), (q_3, .inr (4, [.int 0, .ref e0, .int 0])), (q_4, .inr (4, [.int 0, .ref e0, .int 0])), (q_5, .inl (cA_5, 7, .inl (upd (upd (fun _ => 0) (0 : Int32).toNatClampNeg (-1)) (1 : Int32).toNatClampNeg (-1))))] H := hP
  have hD : va_D A [(g0, .inr (16, [.ref q_1, .ref q_2, .ref q_3, .ref q_4, .null, .null, .int 0, .int 0, .int 0, .int 0, .int 0, .int 0, .int 0, .int 0, .int 0, .int 0, .long 0])), (q_1, .inr (4, [.int 0, .ref e0, .int 0])), (q_2, .inr (4, [.int 0, .ref e0, .int 0])), (q_3, .inr (4, [.int 0, .ref e0, .int 0])), (q_4, .inr (4, [.int 0, .ref e0, .int 0])), (q_5, .inl (cA_5, 7, .inl (upd (upd (fun _ => 0) (0 : Int32).toNatClampNeg (-1)) (1 : Int32).toNatClampNeg (-1))))] := hD
  refine lv_dup hx hb dX11_init_61 rfl ?_
  refine lv_iconst (v := 2) hx hb dX11_init_62 (by decide) ?_
  refine lv_iconst (v := (-1)) hx hb dX11_init_63 (by decide) ?_
  refine va_iast hx hb hK hP hD hS 5 0 rfl rfl (fz_il (by decide)) dX11_init_64 (fun H locs hP hD hS => ?_)
  have hP : va_P (dC, dI) vwCl [(g0, .inr (16, [.ref q_1, .ref q_2, .ref q_3, .ref q_4, .null, .null, .int 0, .int 0, .int 0, .int 0, .int 0, .int 0, .int 0, .int 0, .int 0, .int 0, .long 0])), (q_1, .inr (4, [.int 0, .ref e0, .int 0])), (q_2, .inr (4, [.int 0, .ref e0, .int 0])), (q_3, .inr (4, [.int 0, .ref e0, .int 0])), (q_4, .inr (4, [.int 0, .ref e0, .int 0])), (q_5, .inl (cA_5, 7, .inl (upd (upd (upd (fun _ => 0) (0 : Int32).toNatClampNeg (-1)) (1 : Int32).toNatClampNeg (-1)) (2 : Int32).toNatClampNeg (-1))))] H := hP
  have hD : va_D A [(g0, .inr (16, [.ref q_1, .ref q_2, .ref q_3, .ref q_4, .null, .null, .int 0, .int 0, .int 0, .int 0, .int 0, .int 0, .int 0, .int 0, .int 0, .int 0, .long 0])), (q_1, .inr (4, [.int 0, .ref e0, .int 0])), (q_2, .inr (4, [.int 0, .ref e0, .int 0])), (q_3, .inr (4, [.int 0, .ref e0, .int 0])), (q_4, .inr (4, [.int 0, .ref e0, .int 0])), (q_5, .inl (cA_5, 7, .inl (upd (upd (upd (fun _ => 0) (0 : Int32).toNatClampNeg (-1)) (1 : Int32).toNatClampNeg (-1)) (2 : Int32).toNatClampNeg (-1))))] := hD
  refine lv_dup hx hb dX11_init_65 rfl ?_
  refine lv_iconst (v := 3) hx hb dX11_init_66 (by decide) ?_
  refine lv_iconst (v := (-1)) hx hb dX11_init_67 (by decide) ?_
  refine va_iast hx hb hK hP hD hS 5 0 rfl rfl (fz_il (by decide)) dX11_init_68 (fun H locs hP hD hS => ?_)
  have hP : va_P (dC, dI) vwCl [(g0, .inr (16, [.ref q_1, .ref q_2, .ref q_3, .ref q_4, .null, .null, .int 0, .int 0, .int 0, .int 0, .int 0, .int 0, .int 0, .int 0, .int 0, .int 0, .long 0])), (q_1, .inr (4, [.int 0, .ref e0, .int 0])), (q_2, .inr (4, [.int 0, .ref e0, .int 0])), (q_3, .inr (4, [.int 0, .ref e0, .int 0])), (q_4, .inr (4, [.int 0, .ref e0, .int 0])), (q_5, .inl (cA_5, 7, .inl (upd (upd (upd (upd (fun _ => 0) (0 : Int32).toNatClampNeg (-1)) (1 : Int32).toNatClampNeg (-1)) (2 : Int32).toNatClampNeg (-1)) (3 : Int32).toNatClampNeg (-1))))] H := hP
  have hD : va_D A [(g0, .inr (16, [.ref q_1, .ref q_2, .ref q_3, .ref q_4, .null, .null, .int 0, .int 0, .int 0, .int 0, .int 0, .int 0, .int 0, .int 0, .int 0, .int 0, .long 0])), (q_1, .inr (4, [.int 0, .ref e0, .int 0])), (q_2, .inr (4, [.int 0, .ref e0, .int 0])), (q_3, .inr (4, [.int 0, .ref e0, .int 0])), (q_4, .inr (4, [.int 0, .ref e0, .int 0])), (q_5, .inl (cA_5, 7, .inl (upd (upd (upd (upd (fun _ => 0) (0 : Int32).toNatClampNeg (-1)) (1 : Int32).toNatClampNeg (-1)) (2 : Int32).toNatClampNeg (-1)) (3 : Int32).toNatClampNeg (-1))))] := hD
  refine lv_dup hx hb dX11_init_69 rfl ?_
  refine lv_iconst (v := 4) hx hb dX11_init_70 (by decide) ?_
  refine lv_iconst (v := (-1)) hx hb dX11_init_71 (by decide) ?_
  refine va_iast hx hb hK hP hD hS 5 0 rfl rfl (fz_il (by decide)) dX11_init_72 (fun H locs hP hD hS => ?_)
  have hP : va_P (dC, dI) vwCl [(g0, .inr (16, [.ref q_1, .ref q_2, .ref q_3, .ref q_4, .null, .null, .int 0, .int 0, .int 0, .int 0, .int 0, .int 0, .int 0, .int 0, .int 0, .int 0, .long 0])), (q_1, .inr (4, [.int 0, .ref e0, .int 0])), (q_2, .inr (4, [.int 0, .ref e0, .int 0])), (q_3, .inr (4, [.int 0, .ref e0, .int 0])), (q_4, .inr (4, [.int 0, .ref e0, .int 0])), (q_5, .inl (cA_5, 7, .inl (upd (upd (upd (upd (upd (fun _ => 0) (0 : Int32).toNatClampNeg (-1)) (1 : Int32).toNatClampNeg (-1)) (2 : Int32).toNatClampNeg (-1)) (3 : Int32).toNatClampNeg (-1)) (4 : Int32).toNatClampNeg (-1))))] H := hP
  have hD : va_D A [(g0, .inr (16, [.ref q_1, .ref q_2, .ref q_3, .ref q_4, .null, .null, .int 0, .int 0, .int 0, .int 0, .int 0, .int 0, .int 0, .int 0, .int 0, .int 0, .long 0])), (q_1, .inr (4, [.int 0, .ref e0, .int 0])), (q_2, .inr (4, [.int 0, .ref e0, .int 0])), (q_3, .inr (4, [.int 0, .ref e0, .int 0])), (q_4, .inr (4, [.int 0, .ref e0, .int 0])), (q_5, .inl (cA_5, 7, .inl (upd (upd (upd (upd (upd (fun _ => 0) (0 : Int32).toNatClampNeg (-1)) (1 : Int32).toNatClampNeg (-1)) (2 : Int32).toNatClampNeg (-1)) (3 : Int32).toNatClampNeg (-1)) (4 : Int32).toNatClampNeg (-1))))] := hD
  refine lv_dup hx hb dX11_init_73 rfl ?_
  refine lv_iconst (v := 5) hx hb dX11_init_74 (by decide) ?_
  refine lv_iconst (v := (-1)) hx hb dX11_init_75 (by decide) ?_
  refine va_iast hx hb hK hP hD hS 5 0 rfl rfl (fz_il (by decide)) dX11_init_76 (fun H locs hP hD hS => ?_)
  have hP : va_P (dC, dI) vwCl [(g0, .inr (16, [.ref q_1, .ref q_2, .ref q_3, .ref q_4, .null, .null, .int 0, .int 0, .int 0, .int 0, .int 0, .int 0, .int 0, .int 0, .int 0, .int 0, .long 0])), (q_1, .inr (4, [.int 0, .ref e0, .int 0])), (q_2, .inr (4, [.int 0, .ref e0, .int 0])), (q_3, .inr (4, [.int 0, .ref e0, .int 0])), (q_4, .inr (4, [.int 0, .ref e0, .int 0])), (q_5, .inl (cA_5, 7, .inl (upd (upd (upd (upd (upd (upd (fun _ => 0) (0 : Int32).toNatClampNeg (-1)) (1 : Int32).toNatClampNeg (-1)) (2 : Int32).toNatClampNeg (-1)) (3 : Int32).toNatClampNeg (-1)) (4 : Int32).toNatClampNeg (-1)) (5 : Int32).toNatClampNeg (-1))))] H := hP
  have hD : va_D A [(g0, .inr (16, [.ref q_1, .ref q_2, .ref q_3, .ref q_4, .null, .null, .int 0, .int 0, .int 0, .int 0, .int 0, .int 0, .int 0, .int 0, .int 0, .int 0, .long 0])), (q_1, .inr (4, [.int 0, .ref e0, .int 0])), (q_2, .inr (4, [.int 0, .ref e0, .int 0])), (q_3, .inr (4, [.int 0, .ref e0, .int 0])), (q_4, .inr (4, [.int 0, .ref e0, .int 0])), (q_5, .inl (cA_5, 7, .inl (upd (upd (upd (upd (upd (upd (fun _ => 0) (0 : Int32).toNatClampNeg (-1)) (1 : Int32).toNatClampNeg (-1)) (2 : Int32).toNatClampNeg (-1)) (3 : Int32).toNatClampNeg (-1)) (4 : Int32).toNatClampNeg (-1)) (5 : Int32).toNatClampNeg (-1))))] := hD
  refine lv_dup hx hb dX11_init_77 rfl ?_
  refine lv_bipush (v := 6) hx hb dX11_init_78 (by decide) ?_
  refine lv_iconst (v := (-1)) hx hb dX11_init_80 (by decide) ?_
  refine va_iast hx hb hK hP hD hS 5 0 rfl rfl (fz_il (by decide)) dX11_init_81 (fun H locs hP hD hS => ?_)
  have hP : va_P (dC, dI) vwCl [(g0, .inr (16, [.ref q_1, .ref q_2, .ref q_3, .ref q_4, .null, .null, .int 0, .int 0, .int 0, .int 0, .int 0, .int 0, .int 0, .int 0, .int 0, .int 0, .long 0])), (q_1, .inr (4, [.int 0, .ref e0, .int 0])), (q_2, .inr (4, [.int 0, .ref e0, .int 0])), (q_3, .inr (4, [.int 0, .ref e0, .int 0])), (q_4, .inr (4, [.int 0, .ref e0, .int 0])), (q_5, .inl (cA_5, 7, .inl (upd (upd (upd (upd (upd (upd (upd (fun _ => 0) (0 : Int32).toNatClampNeg (-1)) (1 : Int32).toNatClampNeg (-1)) (2 : Int32).toNatClampNeg (-1)) (3 : Int32).toNatClampNeg (-1)) (4 : Int32).toNatClampNeg (-1)) (5 : Int32).toNatClampNeg (-1)) (6 : Int32).toNatClampNeg (-1))))] H := hP
  have hD : va_D A [(g0, .inr (16, [.ref q_1, .ref q_2, .ref q_3, .ref q_4, .null, .null, .int 0, .int 0, .int 0, .int 0, .int 0, .int 0, .int 0, .int 0, .int 0, .int 0, .long 0])), (q_1, .inr (4, [.int 0, .ref e0, .int 0])), (q_2, .inr (4, [.int 0, .ref e0, .int 0])), (q_3, .inr (4, [.int 0, .ref e0, .int 0])), (q_4, .inr (4, [.int 0, .ref e0, .int 0])), (q_5, .inl (cA_5, 7, .inl (upd (upd (upd (upd (upd (upd (upd (fun _ => 0) (0 : Int32).toNatClampNeg (-1)) (1 : Int32).toNatClampNeg (-1)) (2 : Int32).toNatClampNeg (-1)) (3 : Int32).toNatClampNeg (-1)) (4 : Int32).toNatClampNeg (-1)) (5 : Int32).toNatClampNeg (-1)) (6 : Int32).toNatClampNeg (-1))))] := hD
  refine va_putF (D := (dC, dI)) (ci := 16) (v := .ref q_5) (ty := .array .int) (C := RX11) (T := TX11) (N := 17) hx hb hts (fun _ h9 => List.mem_cons_of_mem _ (List.mem_append_right _ (List.mem_append_right _ (List.mem_append_right _ h9)))) tyX11 tyX11_ok nmX11 hown hK hP hD hS 0 rfl rfl 4 (by decide) (hts _ (List.mem_cons_of_mem _ (List.mem_append_left _ (List.mem_of_getElem? (i := 13) rfl)))) (fun _ h9 => h9) rfl hin rfl (by decide +kernel) rfl rfl (Nat.le_of_ble_eq_true rfl) dX11_init_82 (fun H locs hP hD hS => ?_)
  have hP : va_P (dC, dI) vwCl [(g0, .inr (16, [.ref q_1, .ref q_2, .ref q_3, .ref q_4, .ref q_5, .null, .int 0, .int 0, .int 0, .int 0, .int 0, .int 0, .int 0, .int 0, .int 0, .int 0, .long 0])), (q_1, .inr (4, [.int 0, .ref e0, .int 0])), (q_2, .inr (4, [.int 0, .ref e0, .int 0])), (q_3, .inr (4, [.int 0, .ref e0, .int 0])), (q_4, .inr (4, [.int 0, .ref e0, .int 0])), (q_5, .inl (cA_5, 7, .inl (upd (upd (upd (upd (upd (upd (upd (fun _ => 0) (0 : Int32).toNatClampNeg (-1)) (1 : Int32).toNatClampNeg (-1)) (2 : Int32).toNatClampNeg (-1)) (3 : Int32).toNatClampNeg (-1)) (4 : Int32).toNatClampNeg (-1)) (5 : Int32).toNatClampNeg (-1)) (6 : Int32).toNatClampNeg (-1))))] H := hP
  have hD : va_D A [(g0, .inr (16, [.ref q_1, .ref q_2, .ref q_3, .ref q_4, .ref q_5, .null, .int 0, .int 0, .int 0, .int 0, .int 0, .int 0, .int 0, .int 0, .int 0, .int 0, .long 0])), (q_1, .inr (4, [.int 0, .ref e0, .int 0])), (q_2, .inr (4, [.int 0, .ref e0, .int 0])), (q_3, .inr (4, [.int 0, .ref e0, .int 0])), (q_4, .inr (4, [.int 0, .ref e0, .int 0])), (q_5, .inl (cA_5, 7, .inl (upd (upd (upd (upd (upd (upd (upd (fun _ => 0) (0 : Int32).toNatClampNeg (-1)) (1 : Int32).toNatClampNeg (-1)) (2 : Int32).toNatClampNeg (-1)) (3 : Int32).toNatClampNeg (-1)) (4 : Int32).toNatClampNeg (-1)) (5 : Int32).toNatClampNeg (-1)) (6 : Int32).toNatClampNeg (-1))))] := hD
  refine lv_aload_n hx hb dX11_init_85 rfl (lv_at hl 0 rfl) ?_
  refine lv_bipush (v := 7) hx hb dX11_init_86 (by decide) ?_
  refine va_newa (atype := .int) (ty := .int) (a0 := (7, .inl (fun _ => 0))) (N' := 7) hx hb (hts _ (List.mem_cons_of_mem _ (List.mem_append_left _ (List.mem_of_getElem? (i := 12) rfl)))) rfl hK hP hD hS hA (fun _ => rfl) (by decide) (by decide) (by decide) (Nat.le_of_ble_eq_true rfl) (Nat.le_of_ble_eq_true rfl) dX11_init_88 (fun q_6 cA_6 H hK hP hD hS => ?_)
  have hK : va_K (dC, dI) vwCl [(cA_5, .int), (cA_6, .int)] s := hK
  have hP : va_P (dC, dI) vwCl [(g0, .inr (16, [.ref q_1, .ref q_2, .ref q_3, .ref q_4, .ref q_5, .null, .int 0, .int 0, .int 0, .int 0, .int 0, .int 0, .int 0, .int 0, .int 0, .int 0, .long 0])), (q_1, .inr (4, [.int 0, .ref e0, .int 0])), (q_2, .inr (4, [.int 0, .ref e0, .int 0])), (q_3, .inr (4, [.int 0, .ref e0, .int 0])), (q_4, .inr (4, [.int 0, .ref e0, .int 0])), (q_5, .inl (cA_5, 7, .inl (upd (upd (upd (upd (upd (upd (upd (fun _ => 0) (0 : Int32).toNatClampNeg (-1)) (1 : Int32).toNatClampNeg (-1)) (2 : Int32).toNatClampNeg (-1)) (3 : Int32).toNatClampNeg (-1)) (4 : Int32).toNatClampNeg (-1)) (5 : Int32).toNatClampNeg (-1)) (6 : Int32).toNatClampNeg (-1)))), (q_6, .inl (cA_6, 7, .inl (fun _ => 0)))] H := hP
  have hD : va_D A [(g0, .inr (16, [.ref q_1, .ref q_2, .ref q_3, .ref q_4, .ref q_5, .null, .int 0, .int 0, .int 0, .int 0, .int 0, .int 0, .int 0, .int 0, .int 0, .int 0, .long 0])), (q_1, .inr (4, [.int 0, .ref e0, .int 0])), (q_2, .inr (4, [.int 0, .ref e0, .int 0])), (q_3, .inr (4, [.int 0, .ref e0, .int 0])), (q_4, .inr (4, [.int 0, .ref e0, .int 0])), (q_5, .inl (cA_5, 7, .inl (upd (upd (upd (upd (upd (upd (upd (fun _ => 0) (0 : Int32).toNatClampNeg (-1)) (1 : Int32).toNatClampNeg (-1)) (2 : Int32).toNatClampNeg (-1)) (3 : Int32).toNatClampNeg (-1)) (4 : Int32).toNatClampNeg (-1)) (5 : Int32).toNatClampNeg (-1)) (6 : Int32).toNatClampNeg (-1)))), (q_6, .inl (cA_6, 7, .inl (fun _ => 0)))] := hD
  refine W.widen (k := 6) (n := 26) (Nat.le_of_ble_eq_true rfl) (Nat.le_of_ble_eq_true rfl) ?_
  refine va_putF (D := (dC, dI)) (ci := 16) (v := .ref q_6) (ty := .array .int) (C := RX11) (T := TX11) (N := 17) hx hb hts (fun _ h9 => List.mem_cons_of_mem _ (List.mem_append_right _ (List.mem_append_right _ (List.mem_append_right _ h9)))) tyX11 tyX11_ok nmX11 hown hK hP hD hS 0 rfl rfl 5 (by decide) (hts _ (List.mem_cons_of_mem _ (List.mem_append_left _ (List.mem_of_getElem? (i := 14) rfl)))) (fun _ h9 => h9) rfl hin rfl (by decide +kernel) rfl rfl (Nat.le_of_ble_eq_true rfl) dX11_init_90 (fun H locs hP hD hS => ?_)
  have hP : va_P (dC, dI) vwCl [(g0, .inr (16, [.ref q_1, .ref q_2, .ref q_3, .ref q_4, .ref q_5, .ref q_6, .int 0, .int 0, .int 0, .int 0, .int 0, .int 0, .int 0, .int 0, .int 0, .int 0, .long 0])), (q_1, .inr (4, [.int 0, .ref e0, .int 0])), (q_2, .inr (4, [.int 0, .ref e0, .int 0])), (q_3, .inr (4, [.int 0, .ref e0, .int 0])), (q_4, .inr (4, [.int 0, .ref e0, .int 0])), (q_5, .inl (cA_5, 7, .inl (upd (upd (upd (upd (upd (upd (upd (fun _ => 0) (0 : Int32).toNatClampNeg (-1)) (1 : Int32).toNatClampNeg (-1)) (2 : Int32).toNatClampNeg (-1)) (3 : Int32).toNatClampNeg (-1)) (4 : Int32).toNatClampNeg (-1)) (5 : Int32).toNatClampNeg (-1)) (6 : Int32).toNatClampNeg (-1)))), (q_6, .inl (cA_6, 7, .inl (fun _ => 0)))] H := hP
  have hD : va_D A [(g0, .inr (16, [.ref q_1, .ref q_2, .ref q_3, .ref q_4, .ref q_5, .ref q_6, .int 0, .int 0, .int 0, .int 0, .int 0, .int 0, .int 0, .int 0, .int 0, .int 0, .long 0])), (q_1, .inr (4, [.int 0, .ref e0, .int 0])), (q_2, .inr (4, [.int 0, .ref e0, .int 0])), (q_3, .inr (4, [.int 0, .ref e0, .int 0])), (q_4, .inr (4, [.int 0, .ref e0, .int 0])), (q_5, .inl (cA_5, 7, .inl (upd (upd (upd (upd (upd (upd (upd (fun _ => 0) (0 : Int32).toNatClampNeg (-1)) (1 : Int32).toNatClampNeg (-1)) (2 : Int32).toNatClampNeg (-1)) (3 : Int32).toNatClampNeg (-1)) (4 : Int32).toNatClampNeg (-1)) (5 : Int32).toNatClampNeg (-1)) (6 : Int32).toNatClampNeg (-1)))), (q_6, .inl (cA_6, 7, .inl (fun _ => 0)))] := hD
  refine lv_aload_n hx hb dX11_init_93 rfl (lv_at hl 0 rfl) ?_
  refine lv_iconst (v := 1) hx hb dX11_init_94 (by decide) ?_
  refine va_put (D := (dC, dI)) (ci := 16) (v := .int 1) (ty := .int) (C := RX11) (T := TX11) (N := 17) hx hb hts (fun _ h9 => List.mem_cons_of_mem _ (List.mem_append_right _ (List.mem_append_right _ (List.mem_append_right _ h9)))) tyX11 tyX11_ok nmX11 hown hK hP hD hS 0 rfl rfl 8 (by decide) (hts _ (List.mem_cons_of_mem _ (List.mem_append_left _ (List.mem_of_getElem? (i := 15) rfl)))) (fun _ h9 => h9) rfl (by decide +kernel) rfl rfl (Nat.le_of_ble_eq_true rfl) dX11_init_95 (fun H locs hP hD hS => ?_)
  have hP : va_P (dC, dI) vwCl [(g0, .inr (16, [.ref q_1, .ref q_2, .ref q_3, .ref q_4, .ref q_5, .ref q_6, .int 0, .int 0, .int 1, .int 0, .int 0, .int 0, .int 0, .int 0, .int 0, .int 0, .long 0])), (q_1, .inr (4, [.int 0, .ref e0, .int 0])), (q_2, .inr (4, [.int 0, .ref e0, .int 0])), (q_3, .inr (4, [.int 0, .ref e0, .int 0])), (q_4, .inr (4, [.int 0, .ref e0, .int 0])), (q_5, .inl (cA_5, 7, .inl (upd (upd (upd (upd (upd (upd (upd (fun _ => 0) (0 : Int32).toNatClampNeg (-1)) (1 : Int32).toNatClampNeg (-1)) (2 : Int32).toNatClampNeg (-1)) (3 : Int32).toNatClampNeg (-1)) (4 : Int32).toNatClampNeg (-1)) (5 : Int32).toNatClampNeg (-1)) (6 : Int32).toNatClampNeg (-1)))), (q_6, .inl (cA_6, 7, .inl (fun _ => 0)))] H := hP
  have hD : va_D A [(g0, .inr (16, [.ref q_1, .ref q_2, .ref q_3, .ref q_4, .ref q_5, .ref q_6, .int 0, .int 0, .int 1, .int 0, .int 0, .int 0, .int 0, .int 0, .int 0, .int 0, .long 0])), (q_1, .inr (4, [.int 0, .ref e0, .int 0])), (q_2, .inr (4, [.int 0, .ref e0, .int 0])), (q_3, .inr (4, [.int 0, .ref e0, .int 0])), (q_4, .inr (4, [.int 0, .ref e0, .int 0])), (q_5, .inl (cA_5, 7, .inl (upd (upd (upd (upd (upd (upd (upd (fun _ => 0) (0 : Int32).toNatClampNeg (-1)) (1 : Int32).toNatClampNeg (-1)) (2 : Int32).toNatClampNeg (-1)) (3 : Int32).toNatClampNeg (-1)) (4 : Int32).toNatClampNeg (-1)) (5 : Int32).toNatClampNeg (-1)) (6 : Int32).toNatClampNeg (-1)))), (q_6, .inl (cA_6, 7, .inl (fun _ => 0)))] := hD
  refine lv_aload_n hx hb dX11_init_98 rfl (lv_at hl 0 rfl) ?_
  refine lv_iconst (v := (-1)) hx hb dX11_init_99 (by decide) ?_
  refine va_put (D := (dC, dI)) (ci := 16) (v := .int (-1)) (ty := .int) (C := RX11) (T := TX11) (N := 17) hx hb hts (fun _ h9 => List.mem_cons_of_mem _ (List.mem_append_right _ (List.mem_append_right _ (List.mem_append_right _ h9)))) tyX11 tyX11_ok nmX11 hown hK hP hD hS 0 rfl rfl 10 (by decide) (hts _ (List.mem_cons_of_mem _ (List.mem_append_left _ (List.mem_of_getElem? (i := 16) rfl)))) (fun _ h9 => h9) rfl (by decide +kernel) rfl rfl (Nat.le_of_ble_eq_true rfl) dX11_init_100 (fun H locs hP hD hS => ?_)
  have hP : va_P (dC, dI) vwCl [(g0, .inr (16, [.ref q_1, .ref q_2, .ref q_3, .ref q_4, .ref q_5, .ref q_6, .int 0, .int 0, .int 1, .int 0, .int (-1), .int 0, .int 0, .int 0, .int 0, .int 0, .long 0])), (q_1, .inr (4, [.int 0, .ref e0, .int 0])), (q_2, .inr (4, [.int 0, .ref e0, .int 0])), (q_3, .inr (4, [.int 0, .ref e0, .int 0])), (q_4, .inr (4, [.int 0, .ref e0, .int 0])), (q_5, .inl (cA_5, 7, .inl (upd (upd (upd (upd (upd (upd (upd (fun _ => 0) (0 : Int32).toNatClampNeg (-1)) (1 : Int32).toNatClampNeg (-1)) (2 : Int32).toNatClampNeg (-1)) (3 : Int32).toNatClampNeg (-1)) (4 : Int32).toNatClampNeg (-1)) (5 : Int32).toNatClampNeg (-1)) (6 : Int32).toNatClampNeg (-1)))), (q_6, .inl (cA_6, 7, .inl (fun _ => 0)))] H := hP
  have hD : va_D A [(g0, .inr (16, [.ref q_1, .ref q_2, .ref q_3, .ref q_4, .ref q_5, .ref q_6, .int 0, .int 0, .int 1, .int 0, .int (-1), .int 0, .int 0, .int 0, .int 0, .int 0, .long 0])), (q_1, .inr (4, [.int 0, .ref e0, .int 0])), (q_2, .inr (4, [.int 0, .ref e0, .int 0])), (q_3, .inr (4, [.int 0, .ref e0, .int 0])), (q_4, .inr (4, [.int 0, .ref e0, .int 0])), (q_5, .inl (cA_5, 7, .inl (upd (upd (upd (upd (upd (upd (upd (fun _ => 0) (0 : Int32).toNatClampNeg (-1)) (1 : Int32).toNatClampNeg (-1)) (2 : Int32).toNatClampNeg (-1)) (3 : Int32).toNatClampNeg (-1)) (4 : Int32).toNatClampNeg (-1)) (5 : Int32).toNatClampNeg (-1)) (6 : Int32).toNatClampNeg (-1)))), (q_6, .inl (cA_6, 7, .inl (fun _ => 0)))] := hD
  have hP9 := hP.sub (ws' := [(g0, .inr (16, [.ref q_1, .ref q_2, .ref q_3, .ref q_4, .ref q_5, .ref q_6, .int 0, .int 0, .int 1, .int 0, .int (-1), .int 0, .int 0, .int 0, .int 0, .int 0, .long 0])), (q_1, .inr (4, [.int 0, .ref e0, .int 0])), (q_2, .inr (4, [.int 0, .ref e0, .int 0])), (q_3, .inr (4, [.int 0, .ref e0, .int 0])), (q_4, .inr (4, [.int 0, .ref e0, .int 0])), (q_5, .inl (cA_5, 7, .inl (upd (upd (upd (upd (upd (upd (upd (fun _ => 0) (0 : Int32).toNatClampNeg (-1)) (1 : Int32).toNatClampNeg (-1)) (2 : Int32).toNatClampNeg (-1)) (3 : Int32).toNatClampNeg (-1)) (4 : Int32).toNatClampNeg (-1)) (5 : Int32).toNatClampNeg (-1)) (6 : Int32).toNatClampNeg (-1))))]) [0, 1, 2, 3, 4, 5] rfl
  have hD9 := hD.sub (ws' := [(g0, .inr (16, [.ref q_1, .ref q_2, .ref q_3, .ref q_4, .ref q_5, .ref q_6, .int 0, .int 0, .int 1, .int 0, .int (-1), .int 0, .int 0, .int 0, .int 0, .int 0, .long 0])), (q_1, .inr (4, [.int 0, .ref e0, .int 0])), (q_2, .inr (4, [.int 0, .ref e0, .int 0])), (q_3, .inr (4, [.int 0, .ref e0, .int 0])), (q_4, .inr (4, [.int 0, .ref e0, .int 0])), (q_5, .inl (cA_5, 7, .inl (upd (upd (upd (upd (upd (upd (upd (fun _ => 0) (0 : Int32).toNatClampNeg (-1)) (1 : Int32).toNatClampNeg (-1)) (2 : Int32).toNatClampNeg (-1)) (3 : Int32).toNatClampNeg (-1)) (4 : Int32).toNatClampNeg (-1)) (5 : Int32).toNatClampNeg (-1)) (6 : Int32).toNatClampNeg (-1))))]) [0, 1, 2, 3, 4, 5] (by decide) rfl
  have hK9 := hK.sub (tys' := [(cA_5, .int)]) [0] rfl
  refine W.widen (k := 6) (n := 26) (Nat.le_of_ble_eq_true rfl) (Nat.le_of_ble_eq_true rfl) ?_
  exact W.vret hx hb hr (fun t ht hW => ⟨⟨(), rfl, trivial, ⟨q_1, q_2, q_3, q_4, q_5, q_6, cA_5, (upd (upd (upd (upd (upd (upd (upd (fun _ => 0) (0 : Int32).toNatClampNeg (-1)) (1 : Int32).toNatClampNeg (-1)) (2 : Int32).toNatClampNeg (-1)) (3 : Int32).toNatClampNeg (-1)) (4 : Int32).toNatClampNeg (-1)) (5 : Int32).toNatClampNeg (-1)) (6 : Int32).toNatClampNeg (-1)), (by intro j hj; rcases (show j = 0 ∨ j = 1 ∨ j = 2 ∨ j = 3 ∨ j = 4 ∨ j = 5 ∨ j = 6 by omega) with rfl | rfl | rfl | rfl | rfl | rfl | rfl <;> first | rfl | decide), by rw [ht]; exact hP9, va_K.moved hW.alike hK9, hD9⟩⟩, hS.F ht⟩) hS.2.2 dX11_init_103
def v_c_X11_thrown : List Cond := .code yX11_thrown cX11_thrown 1 (some .int) :: ([.fieldLink RX11 39 "VoussoirYardModel" "thrown" "I"] ++ (wsX110))
set_option maxRecDepth 20000 in
theorem i_c_X11_thrown : ∀ w ∈ v_c_X11_thrown, w ∈ lw_tbl := List.forall_mem_cons.mpr ⟨List.mem_of_getElem? (i := 1379) (by decide +kernel), List.forall_mem_append.mpr ⟨List.forall_mem_cons.mpr ⟨List.mem_of_getElem? (i := 1330) (by decide +kernel), fun _ h => absurd h List.not_mem_nil⟩, inX11⟩⟩
set_option maxHeartbeats 4000000 in
set_option maxRecDepth 100000 in
theorem c_X11_thrown (l : Launch) (dC : Nat → ClassId) (dI : Nat → Nat → Nat) (e0 : Nat) (g0 mj mq mm ms mf ml : Nat) (th : Int32) (sz : Nat) : Met l yX11_thrown v_c_X11_thrown ({ frames := 0, cells := 0, slots := 0, locals := 0 }) (fz_P (dC, dI) e0 [(g0, .inr (16, [.ref mj, .ref mq, .ref mm, .ref ms, .ref mf, .ref ml, .int th, .int 0, .int 1, .int 0, .int (-1), .int 0, .int 0, .int 0, .int 0, .int 0, .long 0]))] [] sz (fun q : Nat => sz ≤ q) [.ref g0]) (va_Qi (fun (r : Int32) (u : Unit) => r = th) (fun (u : Unit) (t : State) => True) (fun q : Nat => sz ≤ q)) 0 0 (fun q : Nat => sz ≤ q) := by
  refine Met.ofW (cc := cX11_thrown) (maxL := 1) (ret := (some .int)) (by decide) rfl ?_
  intro p e s m args below meth c s₁ B hml hv
  obtain ⟨rfl, hsz, hP, hK, hD0, hAm⟩ := hv
  have hx := B.exec
  have hb := B.bytes
  have hr := B.returns
  have hts := atoms_spec (ws := v_c_X11_thrown) B.pre
  have hown : s.vm.findClass RX11 = some m.cls := findClass_of_methodNamed B.named
  have hlocks := B.notSynchronized
  subst hsz
  have hD := hD0
  generalize hAe : (fun q : Nat => s.heap.size ≤ q) = A at hAm ⊢
  have hA : ∀ q : Nat, s.heap.size ≤ q → A q := fun q h => by rw [← hAe]; exact h
  have hS : va_S A s.heap s.heap [] := va_S.rf
  have hP : va_P (dC, dI) vwCl [(g0, .inr (16, [.ref mj, .ref mq, .ref mm, .ref ms, .ref mf, .ref ml, .int th, .int 0, .int 1, .int 0, .int (-1), .int 0, .int 0, .int 0, .int 0, .int 0, .long 0]))] s.heap := hP
  have hl := lv_entry ([.ref g0]) (n := 1) (Nat.le_of_ble_eq_true rfl)
  rw [lg_entry_eq]
  generalize (lg_sl ([.ref g0]) ++ List.replicate (1 - (lg_sl ([.ref g0])).length) Slot.unset).toArray = ls at hl ⊢
  have hl : lv_has ls 1 [(0, .ref g0)] := hl
  refine lv_aload_n hx hb dX11_thrown_0 rfl (lv_at hl 0 rfl) ?_
  refine va_get (D := (dC, dI)) (ci := 16) (v := .int th) (C := RX11) (T := TX11) (N := 17) hx hb hts (fun _ h9 => List.mem_cons_of_mem _ (List.mem_append_right _ (h9))) hown hK hP 0 rfl rfl 6 (by decide) (hts _ (List.mem_cons_of_mem _ (List.mem_append_left _ (List.mem_of_getElem? (i := 0) rfl)))) (fun _ h9 => h9) rfl dX11_thrown_1 ?_
  refine W.widen (k := 0) (n := 0) (Nat.le_of_ble_eq_true rfl) (Nat.le_of_ble_eq_true rfl) ?_
  exact W.iret (v := th) hx hb hr (fun t ht hW => ⟨⟨th, (), rfl, rfl, trivial⟩, hS.F ht⟩) hS.2.2 dX11_thrown_4
def v_c_X11_refuse : List Cond := .code yX11_refuse cX11_refuse 2 (some .int) :: ([.fieldLink RX11 39 "VoussoirYardModel" "thrown" "I"] ++ (wsX110))
set_option maxRecDepth 20000 in
theorem i_c_X11_refuse : ∀ w ∈ v_c_X11_refuse, w ∈ lw_tbl := List.forall_mem_cons.mpr ⟨List.mem_of_getElem? (i := 1864) (by decide +kernel), List.forall_mem_append.mpr ⟨List.forall_mem_cons.mpr ⟨List.mem_of_getElem? (i := 1330) (by decide +kernel), fun _ h => absurd h List.not_mem_nil⟩, inX11⟩⟩
set_option maxHeartbeats 4000000 in
set_option maxRecDepth 100000 in
theorem c_X11_refuse (l : Launch) (dC : Nat → ClassId) (dI : Nat → Nat → Nat) (e0 : Nat) (g0 : Nat) (p0 : Int32) (mj mq mm ms mf ml : Nat) (th : Int32) (sz : Nat) : Met l yX11_refuse v_c_X11_refuse ({ frames := 0, cells := 0, slots := 0, locals := 0 }) (fz_P (dC, dI) e0 [(g0, .inr (16, [.ref mj, .ref mq, .ref mm, .ref ms, .ref mf, .ref ml, .int th, .int 0, .int 1, .int 0, .int (-1), .int 0, .int 0, .int 0, .int 0, .int 0, .long 0]))] [] sz (va_A [(g0, .inr (16, [.ref mj, .ref mq, .ref mm, .ref ms, .ref mf, .ref ml, .int th, .int 0, .int 1, .int 0, .int (-1), .int 0, .int 0, .int 0, .int 0, .int 0, .long 0]))] sz) [.ref g0, .int p0]) (va_Qi (fun (r : Int32) (u : Unit) => r = 0) (fun (u : Unit) (t : State) => va_P (dC, dI) vwCl [(g0, .inr (16, [.ref mj, .ref mq, .ref mm, .ref ms, .ref mf, .ref ml, .int p0, .int 0, .int 1, .int 0, .int (-1), .int 0, .int 0, .int 0, .int 0, .int 0, .long 0]))] t.heap ∧ va_K (dC, dI) vwCl [] t ∧ va_D (va_A [(g0, .inr (16, [.ref mj, .ref mq, .ref mm, .ref ms, .ref mf, .ref ml, .int th, .int 0, .int 1, .int 0, .int (-1), .int 0, .int 0, .int 0, .int 0, .int 0, .long 0]))] sz) [(g0, .inr (16, [.ref mj, .ref mq, .ref mm, .ref ms, .ref mf, .ref ml, .int p0, .int 0, .int 1, .int 0, .int (-1), .int 0, .int 0, .int 0, .int 0, .int 0, .long 0]))]) (va_A [(g0, .inr (16, [.ref mj, .ref mq, .ref mm, .ref ms, .ref mf, .ref ml, .int th, .int 0, .int 1, .int 0, .int (-1), .int 0, .int 0, .int 0, .int 0, .int 0, .long 0]))] sz)) 0 0 (va_A [(g0, .inr (16, [.ref mj, .ref mq, .ref mm, .ref ms, .ref mf, .ref ml, .int th, .int 0, .int 1, .int 0, .int (-1), .int 0, .int 0, .int 0, .int 0, .int 0, .long 0]))] sz) := by
  refine Met.ofW (cc := cX11_refuse) (maxL := 2) (ret := (some .int)) (by decide) rfl ?_
  intro p e s m args below meth c s₁ B hml hv
  obtain ⟨rfl, hsz, hP, hK, hD0, hAm⟩ := hv
  have hx := B.exec
  have hb := B.bytes
  have hr := B.returns
  have hts := atoms_spec (ws := v_c_X11_refuse) B.pre
  have hown : s.vm.findClass RX11 = some m.cls := findClass_of_methodNamed B.named
  have hlocks := B.notSynchronized
  subst hsz
  have hD := hD0.self (sz := s.heap.size)
  generalize hAe : va_A [(g0, .inr (16, [.ref mj, .ref mq, .ref mm, .ref ms, .ref mf, .ref ml, .int th, .int 0, .int 1, .int 0, .int (-1), .int 0, .int 0, .int 0, .int 0, .int 0, .long 0]))] s.heap.size = A at hD hAm ⊢
  have hA : ∀ q : Nat, s.heap.size ≤ q → A q := fun q h => by rw [← hAe]; exact Or.inr h
  have hS : va_S A s.heap s.heap [] := va_S.rf
  have hP : va_P (dC, dI) vwCl [(g0, .inr (16, [.ref mj, .ref mq, .ref mm, .ref ms, .ref mf, .ref ml, .int th, .int 0, .int 1, .int 0, .int (-1), .int 0, .int 0, .int 0, .int 0, .int 0, .long 0]))] s.heap := hP
  have hl := lv_entry ([.ref g0, .int p0]) (n := 2) (Nat.le_of_ble_eq_true rfl)
  rw [lg_entry_eq]
  generalize (lg_sl ([.ref g0, .int p0]) ++ List.replicate (2 - (lg_sl ([.ref g0, .int p0])).length) Slot.unset).toArray = ls at hl ⊢
  have hl : lv_has ls 2 [(0, .ref g0), (1, .int p0)] := hl
  refine lv_aload_n hx hb dX11_refuse_0 rfl (lv_at hl 0 rfl) ?_
  refine lv_iload_n hx hb dX11_refuse_1 rfl (lv_at hl 1 rfl) ?_
  refine va_put (D := (dC, dI)) (ci := 16) (v := .int p0) (ty := .int) (C := RX11) (T := TX11) (N := 17) hx hb hts (fun _ h9 => List.mem_cons_of_mem _ (List.mem_append_right _ (h9))) tyX11 tyX11_ok nmX11 hown hK hP hD hS 0 rfl rfl 6 (by decide) (hts _ (List.mem_cons_of_mem _ (List.mem_append_left _ (List.mem_of_getElem? (i := 0) rfl)))) (fun _ h9 => h9) rfl (by decide +kernel) rfl rfl (Nat.le_of_ble_eq_true rfl) dX11_refuse_2 (fun H locs hP hD hS => ?_)
  have hP : va_P (dC, dI) vwCl [(g0, .inr (16, [.ref mj, .ref mq, .ref mm, .ref ms, .ref mf, .ref ml, .int p0, .int 0, .int 1, .int 0, .int (-1), .int 0, .int 0, .int 0, .int 0, .int 0, .long 0]))] H := hP
  have hD : va_D A [(g0, .inr (16, [.ref mj, .ref mq, .ref mm, .ref ms, .ref mf, .ref ml, .int p0, .int 0, .int 1, .int 0, .int (-1), .int 0, .int 0, .int 0, .int 0, .int 0, .long 0]))] := hD
  refine lv_iconst (v := 0) hx hb dX11_refuse_5 (by decide) ?_
  have hP9 := hP.sub (ws' := [(g0, .inr (16, [.ref mj, .ref mq, .ref mm, .ref ms, .ref mf, .ref ml, .int p0, .int 0, .int 1, .int 0, .int (-1), .int 0, .int 0, .int 0, .int 0, .int 0, .long 0]))]) [0] rfl
  have hD9 := hD.sub (ws' := [(g0, .inr (16, [.ref mj, .ref mq, .ref mm, .ref ms, .ref mf, .ref ml, .int p0, .int 0, .int 1, .int 0, .int (-1), .int 0, .int 0, .int 0, .int 0, .int 0, .long 0]))]) [0] (by decide) rfl
  have hK9 := hK.sub (tys' := []) [] rfl
  refine W.widen (k := 0) (n := 0) (Nat.le_of_ble_eq_true rfl) (Nat.le_of_ble_eq_true rfl) ?_
  exact W.iret (v := 0) hx hb hr (fun t ht hW => ⟨⟨0, (), rfl, rfl, ⟨by rw [ht]; exact hP9, va_K.moved hW.alike hK9, hD9⟩⟩, hS.F ht⟩) hS.2.2 dX11_refuse_6
def v_c_X11_isIn : List Cond := .code yX11_isIn cX11_isIn 6 (some .boolean) :: ([] ++ (([] : List Cond)))
set_option maxRecDepth 20000 in
theorem i_c_X11_isIn : ∀ w ∈ v_c_X11_isIn, w ∈ lw_tbl := List.forall_mem_cons.mpr ⟨List.mem_of_getElem? (i := 1390) (by decide +kernel), List.forall_mem_append.mpr ⟨fun _ h => absurd h List.not_mem_nil, fun _ h => absurd h List.not_mem_nil⟩⟩
theorem q_c_X11_isIn_0 {p0 p1 p2 : Int32} (c_1 : p0 < p1) : ¬ fz_in p0 p1 p2 := by
  first | assumption | (simp_all [fz_in, fz_v]; done) | (simp only [fz_in, fz_v] at *; grind)
theorem q_c_X11_isIn_1 {p0 p1 p2 : Int32} (c_1 : ¬ p0 < p1) (c_2 : p2 < p0) : ¬ fz_in p0 p1 p2 := by
  first | assumption | (simp_all [fz_in, fz_v]; done) | (simp only [fz_in, fz_v] at *; grind)
theorem q_c_X11_isIn_2 {p0 p1 p2 : Int32} (c_1 : ¬ p0 < p1) (c_2 : ¬ p2 < p0) : fz_in p0 p1 p2 := by
  first | assumption | (simp_all [fz_in, fz_v]; done) | (simp only [fz_in, fz_v] at *; grind)
set_option maxHeartbeats 4000000 in
set_option maxRecDepth 100000 in
theorem c_X11_isIn (l : Launch) (dC : Nat → ClassId) (dI : Nat → Nat → Nat) (e0 : Nat) (p0 p1 p2 : Int32) (sz : Nat) : Met l yX11_isIn v_c_X11_isIn ({ frames := 0, cells := 0, slots := 0, locals := 0 }) (fz_P (dC, dI) e0 [] [] sz (fun q : Nat => sz ≤ q) [.long p0.toInt64, .long p1.toInt64, .long p2.toInt64]) (va_Qi (fun (r : Int32) (u : Unit) => (r = 1 ∧ fz_in p0 p1 p2) ∨ (r = 0 ∧ ¬ fz_in p0 p1 p2)) (fun (u : Unit) (t : State) => True) (fun q : Nat => sz ≤ q)) 0 0 (fun q : Nat => sz ≤ q) := by
  refine Met.ofW (cc := cX11_isIn) (maxL := 6) (ret := (some .boolean)) (by decide) rfl ?_
  intro p e s m args below meth c s₁ B hml hv
  obtain ⟨rfl, hsz, hP, hK, hD0, hAm⟩ := hv
  have hx := B.exec
  have hb := B.bytes
  have hr := B.returns
  have hts := atoms_spec (ws := v_c_X11_isIn) B.pre
  have hown : s.vm.findClass RX11 = some m.cls := findClass_of_methodNamed B.named
  have hlocks := B.notSynchronized
  subst hsz
  have hD := hD0
  generalize hAe : (fun q : Nat => s.heap.size ≤ q) = A at hAm ⊢
  have hA : ∀ q : Nat, s.heap.size ≤ q → A q := fun q h => by rw [← hAe]; exact h
  have hS : va_S A s.heap s.heap [] := va_S.rf
  have hP : va_P (dC, dI) vwCl [] s.heap := hP
  have hl := lv_entry ([.long p0.toInt64, .long p1.toInt64, .long p2.toInt64]) (n := 6) (Nat.le_of_ble_eq_true rfl)
  rw [lg_entry_eq]
  generalize (lg_sl ([.long p0.toInt64, .long p1.toInt64, .long p2.toInt64]) ++ List.replicate (6 - (lg_sl ([.long p0.toInt64, .long p1.toInt64, .long p2.toInt64])).length) Slot.unset).toArray = ls at hl ⊢
  have hl : lv_has ls 6 [(0, .long p0.toInt64), (2, .long p1.toInt64), (4, .long p2.toInt64)] := hl
  refine lv_lload_n hx hb dX11_isIn_0 rfl (lv_at hl 0 rfl) ?_
  refine lv_lload_n hx hb dX11_isIn_1 rfl (lv_at hl 1 rfl) ?_
  refine W.lcmp hx hb dX11_isIn_2 ?_
  refine lv_if_lt (tgt := 17) hx hb dX11_isIn_3 (by decide) (fun c_1 => ?_) (fun c_1 => ?_)
  · replace c_1 := (fz_cmp_lt _ _).mp c_1
    refine lv_iconst (v := 0) hx hb dX11_isIn_17 (by decide) ?_
    refine W.widen (k := 0) (n := 0) (Nat.le_of_ble_eq_true rfl) (Nat.le_of_ble_eq_true rfl) ?_
    exact W.zret (v := 0) hx hb hr rfl (fun t ht hW => ⟨⟨0, (), rfl, Or.inr (⟨rfl, (q_c_X11_isIn_0 c_1)⟩), trivial⟩, hS.F ht⟩) hS.2.2 dX11_isIn_18
  · replace c_1 := fun h9 => c_1 ((fz_cmp_lt _ _).mpr h9)
    refine lv_lload_n hx hb dX11_isIn_6 rfl (lv_at hl 0 rfl) ?_
    refine lv_lload hx hb dX11_isIn_7 (lv_at hl 2 rfl) ?_
    refine W.lcmp hx hb dX11_isIn_9 ?_
    refine lv_if_gt (tgt := 17) hx hb dX11_isIn_10 (by decide) (fun c_2 => ?_) (fun c_2 => ?_)
    · replace c_2 := (fz_cmp_gt _ _).mp c_2
      refine lv_iconst (v := 0) hx hb dX11_isIn_17 (by decide) ?_
      refine W.widen (k := 0) (n := 0) (Nat.le_of_ble_eq_true rfl) (Nat.le_of_ble_eq_true rfl) ?_
      exact W.zret (v := 0) hx hb hr rfl (fun t ht hW => ⟨⟨0, (), rfl, Or.inr (⟨rfl, (q_c_X11_isIn_1 c_1 c_2)⟩), trivial⟩, hS.F ht⟩) hS.2.2 dX11_isIn_18
    · replace c_2 := fun h9 => c_2 ((fz_cmp_gt _ _).mpr h9)
      refine lv_iconst (v := 1) hx hb dX11_isIn_13 (by decide) ?_
      refine lv_goto (tgt := 18) hx hb dX11_isIn_14 (by decide) ?_
      refine W.widen (k := 0) (n := 0) (Nat.le_of_ble_eq_true rfl) (Nat.le_of_ble_eq_true rfl) ?_
      exact W.zret (v := 1) hx hb hr rfl (fun t ht hW => ⟨⟨1, (), rfl, Or.inl (⟨rfl, (q_c_X11_isIn_2 c_1 c_2)⟩), trivial⟩, hS.F ht⟩) hS.2.2 dX11_isIn_18
def v_c_X11_no1 : List Cond := .code yX11_no cX11_no 3 (some .boolean) :: ([.fieldLink RX11 39 "VoussoirYardModel" "thrown" "I"] ++ (wsX110))
set_option maxRecDepth 20000 in
theorem i_c_X11_no1 : ∀ w ∈ v_c_X11_no1, w ∈ lw_tbl := List.forall_mem_cons.mpr ⟨List.mem_of_getElem? (i := 1437) (by decide +kernel), List.forall_mem_append.mpr ⟨List.forall_mem_cons.mpr ⟨List.mem_of_getElem? (i := 1330) (by decide +kernel), fun _ h => absurd h List.not_mem_nil⟩, inX11⟩⟩
set_option maxHeartbeats 4000000 in
set_option maxRecDepth 100000 in
theorem c_X11_no1 (l : Launch) (dC : Nat → ClassId) (dI : Nat → Nat → Nat) (e0 : Nat) (g0 : Nat) (p0 : Int32) (mj mq mm ms mf ml : Nat) (th : Int32) (sz : Nat) : Met l yX11_no v_c_X11_no1 ({ frames := 0, cells := 0, slots := 0, locals := 0 }) (fz_P (dC, dI) e0 [(g0, .inr (16, [.ref mj, .ref mq, .ref mm, .ref ms, .ref mf, .ref ml, .int th, .int 0, .int 1, .int 0, .int (-1), .int 0, .int 0, .int 0, .int 0, .int 0, .long 0]))] [] sz (va_A [(g0, .inr (16, [.ref mj, .ref mq, .ref mm, .ref ms, .ref mf, .ref ml, .int th, .int 0, .int 1, .int 0, .int (-1), .int 0, .int 0, .int 0, .int 0, .int 0, .long 0]))] sz) [.ref g0, .int 1, .int p0]) (va_Qi (fun (r : Int32) (u : Unit) => r = 0) (fun (u : Unit) (t : State) => va_P (dC, dI) vwCl [(g0, .inr (16, [.ref mj, .ref mq, .ref mm, .ref ms, .ref mf, .ref ml, .int 0, .int 0, .int 1, .int 0, .int (-1), .int 0, .int 0, .int 0, .int 0, .int 0, .long 0]))] t.heap ∧ va_K (dC, dI) vwCl [] t ∧ va_D (va_A [(g0, .inr (16, [.ref mj, .ref mq, .ref mm, .ref ms, .ref mf, .ref ml, .int th, .int 0, .int 1, .int 0, .int (-1), .int 0, .int 0, .int 0, .int 0, .int 0, .long 0]))] sz) [(g0, .inr (16, [.ref mj, .ref mq, .ref mm, .ref ms, .ref mf, .ref ml, .int 0, .int 0, .int 1, .int 0, .int (-1), .int 0, .int 0, .int 0, .int 0, .int 0, .long 0]))]) (va_A [(g0, .inr (16, [.ref mj, .ref mq, .ref mm, .ref ms, .ref mf, .ref ml, .int th, .int 0, .int 1, .int 0, .int (-1), .int 0, .int 0, .int 0, .int 0, .int 0, .long 0]))] sz)) 0 0 (va_A [(g0, .inr (16, [.ref mj, .ref mq, .ref mm, .ref ms, .ref mf, .ref ml, .int th, .int 0, .int 1, .int 0, .int (-1), .int 0, .int 0, .int 0, .int 0, .int 0, .long 0]))] sz) := by
  refine Met.ofW (cc := cX11_no) (maxL := 3) (ret := (some .boolean)) (by decide) rfl ?_
  intro p e s m args below meth c s₁ B hml hv
  obtain ⟨rfl, hsz, hP, hK, hD0, hAm⟩ := hv
  have hx := B.exec
  have hb := B.bytes
  have hr := B.returns
  have hts := atoms_spec (ws := v_c_X11_no1) B.pre
  have hown : s.vm.findClass RX11 = some m.cls := findClass_of_methodNamed B.named
  have hlocks := B.notSynchronized
  subst hsz
  have hD := hD0.self (sz := s.heap.size)
  generalize hAe : va_A [(g0, .inr (16, [.ref mj, .ref mq, .ref mm, .ref ms, .ref mf, .ref ml, .int th, .int 0, .int 1, .int 0, .int (-1), .int 0, .int 0, .int 0, .int 0, .int 0, .long 0]))] s.heap.size = A at hD hAm ⊢
  have hA : ∀ q : Nat, s.heap.size ≤ q → A q := fun q h => by rw [← hAe]; exact Or.inr h
  have hS : va_S A s.heap s.heap [] := va_S.rf
  have hP : va_P (dC, dI) vwCl [(g0, .inr (16, [.ref mj, .ref mq, .ref mm, .ref ms, .ref mf, .ref ml, .int th, .int 0, .int 1, .int 0, .int (-1), .int 0, .int 0, .int 0, .int 0, .int 0, .long 0]))] s.heap := hP
  have hl := lv_entry ([.ref g0, .int 1, .int p0]) (n := 3) (Nat.le_of_ble_eq_true rfl)
  rw [lg_entry_eq]
  generalize (lg_sl ([.ref g0, .int 1, .int p0]) ++ List.replicate (3 - (lg_sl ([.ref g0, .int 1, .int p0])).length) Slot.unset).toArray = ls at hl ⊢
  have hl : lv_has ls 3 [(0, .ref g0), (1, .int 1), (2, .int p0)] := hl
  refine lv_aload_n hx hb dX11_no_0 rfl (lv_at hl 0 rfl) ?_
  refine lv_iload_n hx hb dX11_no_1 rfl (lv_at hl 1 rfl) ?_
  refine lv_if_eq (tgt := 9) hx hb dX11_no_2 (by decide) (fun c_9 => absurd c_9 (by decide)) (fun _ => ?_)
  refine lv_iconst (v := 0) hx hb dX11_no_5 (by decide) ?_
  refine lv_goto (tgt := 10) hx hb dX11_no_6 (by decide) ?_
  refine va_put (D := (dC, dI)) (ci := 16) (v := .int 0) (ty := .int) (C := RX11) (T := TX11) (N := 17) hx hb hts (fun _ h9 => List.mem_cons_of_mem _ (List.mem_append_right _ (h9))) tyX11 tyX11_ok nmX11 hown hK hP hD hS 0 rfl rfl 6 (by decide) (hts _ (List.mem_cons_of_mem _ (List.mem_append_left _ (List.mem_of_getElem? (i := 0) rfl)))) (fun _ h9 => h9) rfl (by decide +kernel) rfl rfl (Nat.le_of_ble_eq_true rfl) dX11_no_10 (fun H locs hP hD hS => ?_)
  have hP : va_P (dC, dI) vwCl [(g0, .inr (16, [.ref mj, .ref mq, .ref mm, .ref ms, .ref mf, .ref ml, .int 0, .int 0, .int 1, .int 0, .int (-1), .int 0, .int 0, .int 0, .int 0, .int 0, .long 0]))] H := hP
  have hD : va_D A [(g0, .inr (16, [.ref mj, .ref mq, .ref mm, .ref ms, .ref mf, .ref ml, .int 0, .int 0, .int 1, .int 0, .int (-1), .int 0, .int 0, .int 0, .int 0, .int 0, .long 0]))] := hD
  refine lv_iload_n hx hb dX11_no_13 rfl (lv_at hl 1 rfl) ?_
  refine lv_if_ne (tgt := 21) hx hb dX11_no_14 (by decide) (fun _ => ?_) (fun c_9 => absurd c_9 (by decide))
  refine lv_iconst (v := 0) hx hb dX11_no_21 (by decide) ?_
  have hP9 := hP.sub (ws' := [(g0, .inr (16, [.ref mj, .ref mq, .ref mm, .ref ms, .ref mf, .ref ml, .int 0, .int 0, .int 1, .int 0, .int (-1), .int 0, .int 0, .int 0, .int 0, .int 0, .long 0]))]) [0] rfl
  have hD9 := hD.sub (ws' := [(g0, .inr (16, [.ref mj, .ref mq, .ref mm, .ref ms, .ref mf, .ref ml, .int 0, .int 0, .int 1, .int 0, .int (-1), .int 0, .int 0, .int 0, .int 0, .int 0, .long 0]))]) [0] (by decide) rfl
  have hK9 := hK.sub (tys' := []) [] rfl
  refine W.widen (k := 0) (n := 0) (Nat.le_of_ble_eq_true rfl) (Nat.le_of_ble_eq_true rfl) ?_
  exact W.zret (v := 0) hx hb hr rfl (fun t ht hW => ⟨⟨0, (), rfl, rfl, ⟨by rw [ht]; exact hP9, va_K.moved hW.alike hK9, hD9⟩⟩, hS.F ht⟩) hS.2.2 dX11_no_22
def v_c_X11_no0 : List Cond := .code yX11_no cX11_no 3 (some .boolean) :: ([.fieldLink RX11 39 "VoussoirYardModel" "thrown" "I"] ++ (wsX110))
set_option maxRecDepth 20000 in
theorem i_c_X11_no0 : ∀ w ∈ v_c_X11_no0, w ∈ lw_tbl := List.forall_mem_cons.mpr ⟨List.mem_of_getElem? (i := 1437) (by decide +kernel), List.forall_mem_append.mpr ⟨List.forall_mem_cons.mpr ⟨List.mem_of_getElem? (i := 1330) (by decide +kernel), fun _ h => absurd h List.not_mem_nil⟩, inX11⟩⟩
set_option maxHeartbeats 4000000 in
set_option maxRecDepth 100000 in
theorem c_X11_no0 (l : Launch) (dC : Nat → ClassId) (dI : Nat → Nat → Nat) (e0 : Nat) (g0 : Nat) (p0 : Int32) (mj mq mm ms mf ml : Nat) (th : Int32) (sz : Nat) : Met l yX11_no v_c_X11_no0 ({ frames := 0, cells := 0, slots := 0, locals := 0 }) (fz_P (dC, dI) e0 [(g0, .inr (16, [.ref mj, .ref mq, .ref mm, .ref ms, .ref mf, .ref ml, .int th, .int 0, .int 1, .int 0, .int (-1), .int 0, .int 0, .int 0, .int 0, .int 0, .long 0]))] [] sz (va_A [(g0, .inr (16, [.ref mj, .ref mq, .ref mm, .ref ms, .ref mf, .ref ml, .int th, .int 0, .int 1, .int 0, .int (-1), .int 0, .int 0, .int 0, .int 0, .int 0, .long 0]))] sz) [.ref g0, .int 0, .int p0]) (va_Qi (fun (r : Int32) (u : Unit) => r = 1) (fun (u : Unit) (t : State) => va_P (dC, dI) vwCl [(g0, .inr (16, [.ref mj, .ref mq, .ref mm, .ref ms, .ref mf, .ref ml, .int p0, .int 0, .int 1, .int 0, .int (-1), .int 0, .int 0, .int 0, .int 0, .int 0, .long 0]))] t.heap ∧ va_K (dC, dI) vwCl [] t ∧ va_D (va_A [(g0, .inr (16, [.ref mj, .ref mq, .ref mm, .ref ms, .ref mf, .ref ml, .int th, .int 0, .int 1, .int 0, .int (-1), .int 0, .int 0, .int 0, .int 0, .int 0, .long 0]))] sz) [(g0, .inr (16, [.ref mj, .ref mq, .ref mm, .ref ms, .ref mf, .ref ml, .int p0, .int 0, .int 1, .int 0, .int (-1), .int 0, .int 0, .int 0, .int 0, .int 0, .long 0]))]) (va_A [(g0, .inr (16, [.ref mj, .ref mq, .ref mm, .ref ms, .ref mf, .ref ml, .int th, .int 0, .int 1, .int 0, .int (-1), .int 0, .int 0, .int 0, .int 0, .int 0, .long 0]))] sz)) 0 0 (va_A [(g0, .inr (16, [.ref mj, .ref mq, .ref mm, .ref ms, .ref mf, .ref ml, .int th, .int 0, .int 1, .int 0, .int (-1), .int 0, .int 0, .int 0, .int 0, .int 0, .long 0]))] sz) := by
  refine Met.ofW (cc := cX11_no) (maxL := 3) (ret := (some .boolean)) (by decide) rfl ?_
  intro p e s m args below meth c s₁ B hml hv
  obtain ⟨rfl, hsz, hP, hK, hD0, hAm⟩ := hv
  have hx := B.exec
  have hb := B.bytes
  have hr := B.returns
  have hts := atoms_spec (ws := v_c_X11_no0) B.pre
  have hown : s.vm.findClass RX11 = some m.cls := findClass_of_methodNamed B.named
  have hlocks := B.notSynchronized
  subst hsz
  have hD := hD0.self (sz := s.heap.size)
  generalize hAe : va_A [(g0, .inr (16, [.ref mj, .ref mq, .ref mm, .ref ms, .ref mf, .ref ml, .int th, .int 0, .int 1, .int 0, .int (-1), .int 0, .int 0, .int 0, .int 0, .int 0, .long 0]))] s.heap.size = A at hD hAm ⊢
  have hA : ∀ q : Nat, s.heap.size ≤ q → A q := fun q h => by rw [← hAe]; exact Or.inr h
  have hS : va_S A s.heap s.heap [] := va_S.rf
  have hP : va_P (dC, dI) vwCl [(g0, .inr (16, [.ref mj, .ref mq, .ref mm, .ref ms, .ref mf, .ref ml, .int th, .int 0, .int 1, .int 0, .int (-1), .int 0, .int 0, .int 0, .int 0, .int 0, .long 0]))] s.heap := hP
  have hl := lv_entry ([.ref g0, .int 0, .int p0]) (n := 3) (Nat.le_of_ble_eq_true rfl)
  rw [lg_entry_eq]
  generalize (lg_sl ([.ref g0, .int 0, .int p0]) ++ List.replicate (3 - (lg_sl ([.ref g0, .int 0, .int p0])).length) Slot.unset).toArray = ls at hl ⊢
  have hl : lv_has ls 3 [(0, .ref g0), (1, .int 0), (2, .int p0)] := hl
  refine lv_aload_n hx hb dX11_no_0 rfl (lv_at hl 0 rfl) ?_
  refine lv_iload_n hx hb dX11_no_1 rfl (lv_at hl 1 rfl) ?_
  refine lv_if_eq (tgt := 9) hx hb dX11_no_2 (by decide) (fun _ => ?_) (fun c_9 => absurd (by decide) c_9)
  refine lv_iload_n hx hb dX11_no_9 rfl (lv_at hl 2 rfl) ?_
  refine va_put (D := (dC, dI)) (ci := 16) (v := .int p0) (ty := .int) (C := RX11) (T := TX11) (N := 17) hx hb hts (fun _ h9 => List.mem_cons_of_mem _ (List.mem_append_right _ (h9))) tyX11 tyX11_ok nmX11 hown hK hP hD hS 0 rfl rfl 6 (by decide) (hts _ (List.mem_cons_of_mem _ (List.mem_append_left _ (List.mem_of_getElem? (i := 0) rfl)))) (fun _ h9 => h9) rfl (by decide +kernel) rfl rfl (Nat.le_of_ble_eq_true rfl) dX11_no_10 (fun H locs hP hD hS => ?_)
  have hP : va_P (dC, dI) vwCl [(g0, .inr (16, [.ref mj, .ref mq, .ref mm, .ref ms, .ref mf, .ref ml, .int p0, .int 0, .int 1, .int 0, .int (-1), .int 0, .int 0, .int 0, .int 0, .int 0, .long 0]))] H := hP
  have hD : va_D A [(g0, .inr (16, [.ref mj, .ref mq, .ref mm, .ref ms, .ref mf, .ref ml, .int p0, .int 0, .int 1, .int 0, .int (-1), .int 0, .int 0, .int 0, .int 0, .int 0, .long 0]))] := hD
  refine lv_iload_n hx hb dX11_no_13 rfl (lv_at hl 1 rfl) ?_
  refine lv_if_ne (tgt := 21) hx hb dX11_no_14 (by decide) (fun c_9 => absurd (by decide) c_9) (fun _ => ?_)
  refine lv_iconst (v := 1) hx hb dX11_no_17 (by decide) ?_
  refine lv_goto (tgt := 22) hx hb dX11_no_18 (by decide) ?_
  have hP9 := hP.sub (ws' := [(g0, .inr (16, [.ref mj, .ref mq, .ref mm, .ref ms, .ref mf, .ref ml, .int p0, .int 0, .int 1, .int 0, .int (-1), .int 0, .int 0, .int 0, .int 0, .int 0, .long 0]))]) [0] rfl
  have hD9 := hD.sub (ws' := [(g0, .inr (16, [.ref mj, .ref mq, .ref mm, .ref ms, .ref mf, .ref ml, .int p0, .int 0, .int 1, .int 0, .int (-1), .int 0, .int 0, .int 0, .int 0, .int 0, .long 0]))]) [0] (by decide) rfl
  have hK9 := hK.sub (tys' := []) [] rfl
  refine W.widen (k := 0) (n := 0) (Nat.le_of_ble_eq_true rfl) (Nat.le_of_ble_eq_true rfl) ?_
  exact W.zret (v := 1) hx hb hr rfl (fun t ht hW => ⟨⟨1, (), rfl, rfl, ⟨by rw [ht]; exact hP9, va_K.moved hW.alike hK9, hD9⟩⟩, hS.F ht⟩) hS.2.2 dX11_no_22
def v_c_X11_many : List Cond := .code yX11_many cX11_many 1 (some .int) :: ([.fieldLink RX11 10 "VoussoirYardModel" "joints" "Ljava/util/List;", .methodLink RX11 48 Lib.Math.max.name, .static Lib.Math.max.name, .initialized "java/lang/Math", .code Lib.Math.max.name Lib.Math.max.code 2 (some .int)] ++ (wsX110 ++ (va_wsF RX11 42 RJx4a65c ⟨"java/util/List", "size", "()I"⟩ yJx4a65c_size_8abf5 v_c_Jx4_size)))
set_option maxRecDepth 20000 in
theorem i_c_X11_many : ∀ w ∈ v_c_X11_many, w ∈ lw_tbl := List.forall_mem_cons.mpr ⟨List.mem_of_getElem? (i := 1527) (by decide +kernel), List.forall_mem_append.mpr ⟨List.forall_mem_cons.mpr ⟨List.mem_of_getElem? (i := 1324) (by decide +kernel), List.forall_mem_cons.mpr ⟨List.mem_of_getElem? (i := 1528) (by decide +kernel), List.forall_mem_cons.mpr ⟨List.mem_of_getElem? (i := 277) (by decide +kernel), List.forall_mem_cons.mpr ⟨List.mem_of_getElem? (i := 67) (by decide +kernel), List.forall_mem_cons.mpr ⟨List.mem_of_getElem? (i := 278) (by decide +kernel), fun _ h => absurd h List.not_mem_nil⟩⟩⟩⟩⟩, List.forall_mem_append.mpr ⟨inX11, (by unfold va_wsF; exact List.forall_mem_append.mpr ⟨List.forall_mem_cons.mpr ⟨List.mem_of_getElem? (i := 1402) (by decide +kernel), List.forall_mem_cons.mpr ⟨List.mem_of_getElem? (i := 1405) (by decide +kernel), List.forall_mem_cons.mpr ⟨List.mem_of_getElem? (i := 1407) (by decide +kernel), List.forall_mem_cons.mpr ⟨List.mem_of_getElem? (i := 57) (by decide +kernel), fun _ h => absurd h List.not_mem_nil⟩⟩⟩⟩, i_c_Jx4_size⟩)⟩⟩⟩
set_option maxHeartbeats 4000000 in
set_option maxRecDepth 100000 in
theorem c_X11_many (l : Launch) (dC : Nat → ClassId) (dI : Nat → Nat → Nat) (e0 : Nat) (g0 mj mq mm ms mf ml : Nat) (th x1 : Int32) (sz : Nat) : Met l yX11_many v_c_X11_many ({ frames := 1, cells := 0, slots := 0, locals := 30 }) (fz_P (dC, dI) e0 [(g0, .inr (16, [.ref mj, .ref mq, .ref mm, .ref ms, .ref mf, .ref ml, .int th, .int 0, .int 1, .int 0, .int x1, .int 0, .int 0, .int 0, .int 0, .int 0, .long 0])), (mj, .inr (4, [.int 0, .ref e0, .int 0]))] [] sz (fun q : Nat => sz ≤ q) [.ref g0]) (va_Qi (fun (r : Int32) (u : Unit) => r = 0) (fun (u : Unit) (t : State) => True) (fun q : Nat => sz ≤ q)) 0 0 (fun q : Nat => sz ≤ q) := by
  refine Met.ofW (cc := cX11_many) (maxL := 1) (ret := (some .int)) (by decide) rfl ?_
  intro p e s m args below meth c s₁ B hml hv
  obtain ⟨rfl, hsz, hP, hK, hD0, hAm⟩ := hv
  have hx := B.exec
  have hb := B.bytes
  have hr := B.returns
  have hts := atoms_spec (ws := v_c_X11_many) B.pre
  have hown : s.vm.findClass RX11 = some m.cls := findClass_of_methodNamed B.named
  have hlocks := B.notSynchronized
  subst hsz
  have hD := hD0
  generalize hAe : (fun q : Nat => s.heap.size ≤ q) = A at hAm ⊢
  have hA : ∀ q : Nat, s.heap.size ≤ q → A q := fun q h => by rw [← hAe]; exact h
  have hS : va_S A s.heap s.heap [] := va_S.rf
  have hP : va_P (dC, dI) vwCl [(g0, .inr (16, [.ref mj, .ref mq, .ref mm, .ref ms, .ref mf, .ref ml, .int th, .int 0, .int 1, .int 0, .int x1, .int 0, .int 0, .int 0, .int 0, .int 0, .long 0])), (mj, .inr (4, [.int 0, .ref e0, .int 0]))] s.heap := hP
  have hl := lv_entry ([.ref g0]) (n := 1) (Nat.le_of_ble_eq_true rfl)
  rw [lg_entry_eq]
  generalize (lg_sl ([.ref g0]) ++ List.replicate (1 - (lg_sl ([.ref g0])).length) Slot.unset).toArray = ls at hl ⊢
  have hl : lv_has ls 1 [(0, .ref g0)] := hl
  refine lv_iconst (v := 0) hx hb dX11_many_0 (by decide) ?_
  refine lv_aload_n hx hb dX11_many_1 rfl (lv_at hl 0 rfl) ?_
  refine va_get (D := (dC, dI)) (ci := 16) (v := .ref mj) (C := RX11) (T := TX11) (N := 17) hx hb hts (fun _ h9 => List.mem_cons_of_mem _ (List.mem_append_right _ (List.mem_append_left _ h9))) hown hK hP 0 rfl rfl 0 (by decide) (hts _ (List.mem_cons_of_mem _ (List.mem_append_left _ (List.mem_of_getElem? (i := 0) rfl)))) (fun _ h9 => h9) rfl dX11_many_2 ?_
  have hPc := hP.sub (ws' := [(mj, .inr (4, [.int 0, .ref e0, .int 0]))]) [1] rfl
  have hDc := hD.sub (ws' := [(mj, .inr (4, [.int 0, .ref e0, .int 0]))]) [1] (by decide) rfl
  have hKc := hK.sub (tys' := []) [] rfl
  have hFc : ∀ q : Nat, s.heap.size ≤ q → A q := fun q h => hA q (Nat.le_trans hS.1 h)
  refine va_callFi (va_runF (As := []) (rest := [.int 0]) (hK.1 4 _ rfl).2 ⟨hx, hb, hml, hown, hts⟩ (c_Jx4_size l dC dI e0 mj 0 e0 0 s.heap.size) (va_cwF 0 hts (goodIn_sub (fun _ h9 => List.mem_cons_of_mem _ (List.mem_append_right _ (List.mem_append_right _ h9))) (by decide +kernel)) rfl rfl rfl hAm.1.2.2.2.1.2.1 (by decide +kernel) ⟨(Nat.le_of_ble_eq_true rfl), (Nat.le_of_ble_eq_true rfl)⟩) ⟨fz_blind, va_recv hKc hPc (ci := 4) (q0 := 0) rfl rfl, fz_pre hPc hKc hDc hAm hS hFc⟩ rfl rfl hl.1 rfl (lv_room (Nat.le_of_ble_eq_true rfl)) dX11_many_5 ⟨(Nat.le_of_ble_eq_true rfl), (Nat.le_of_ble_eq_true rfl)⟩) hS (fun q _ h => hFc q h) hFc (fun r u t H1 locs ht hvm hw hB hz1 hk1 hS => ?_)
  obtain rfl := hw
  have hP := fz_keep hP hk1
  generalize H1 = H at hP hS ⊢
  have hP : va_P (dC, dI) vwCl [(g0, .inr (16, [.ref mj, .ref mq, .ref mm, .ref ms, .ref mf, .ref ml, .int th, .int 0, .int 1, .int 0, .int x1, .int 0, .int 0, .int 0, .int 0, .int 0, .long 0])), (mj, .inr (4, [.int 0, .ref e0, .int 0]))] H := hP
  refine W.widen (k := 0) (n := 0) (Nat.le_of_ble_eq_true rfl) (Nat.le_of_ble_eq_true rfl) ?_
  refine lv_iconst (v := 1) hx hb dX11_many_10 (by decide) ?_
  refine lv_isub hx hb dX11_many_11 ?_
  refine lv_topi (fun z_9 e_9 => ?_)
  obtain rfl : (-1) = z_9 := (e_9.trans (by decide)).symm
  refine va_mmax hx hb (hml.trans hl.1.symm) hown (hts _ (List.mem_cons_of_mem _ (List.mem_append_left _ (List.mem_of_getElem? (i := 1) rfl)))) (hts _ (List.mem_cons_of_mem _ (List.mem_append_left _ (List.mem_of_getElem? (i := 2) rfl)))) (hts _ (List.mem_cons_of_mem _ (List.mem_append_left _ (List.mem_of_getElem? (i := 3) rfl)))) (hts _ (List.mem_cons_of_mem _ (List.mem_append_left _ (List.mem_of_getElem? (i := 4) rfl)))) (Nat.le_of_ble_eq_true rfl) (Nat.le_of_ble_eq_true rfl) (Nat.le_of_ble_eq_true rfl) (Nat.le_of_ble_eq_true rfl) dX11_many_12 ?_
  refine lv_topi (fun z_9 e_9 => ?_)
  obtain rfl : 0 = z_9 := (e_9.trans (by decide)).symm
  refine W.widen (k := 0) (n := 0) (Nat.le_of_ble_eq_true rfl) (Nat.le_of_ble_eq_true rfl) ?_
  exact W.iret (v := 0) hx hb hr (fun t ht hW => ⟨⟨0, (), rfl, rfl, trivial⟩, hS.F ht⟩) hS.2.2 dX11_many_15
def v_c_X11_isPlace : List Cond := .code yX11_isPlace cX11_isPlace 2 (some .boolean) :: ([] ++ (wsV RX11 54 RX11 yX11_many v_c_X11_many ++ (wsS RX11 57 yX11_isIn v_c_X11_isIn)))
set_option maxRecDepth 20000 in
theorem i_c_X11_isPlace : ∀ w ∈ v_c_X11_isPlace, w ∈ lw_tbl := List.forall_mem_cons.mpr ⟨List.mem_of_getElem? (i := 1540) (by decide +kernel), List.forall_mem_append.mpr ⟨fun _ h => absurd h List.not_mem_nil, List.forall_mem_append.mpr ⟨(by unfold wsV; exact List.forall_mem_append.mpr ⟨List.forall_mem_cons.mpr ⟨List.mem_of_getElem? (i := 1524) (by decide +kernel), List.forall_mem_cons.mpr ⟨List.mem_of_getElem? (i := 1526) (by decide +kernel), List.forall_mem_cons.mpr ⟨List.mem_of_getElem? (i := 30) (by decide +kernel), List.forall_mem_cons.mpr ⟨List.mem_of_getElem? (i := 54) (by decide +kernel), fun _ h => absurd h List.not_mem_nil⟩⟩⟩⟩, i_c_X11_many⟩), (by unfold wsS; exact List.forall_mem_append.mpr ⟨List.forall_mem_cons.mpr ⟨List.mem_of_getElem? (i := 1388) (by decide +kernel), List.forall_mem_cons.mpr ⟨List.mem_of_getElem? (i := 1389) (by decide +kernel), List.forall_mem_cons.mpr ⟨List.mem_of_getElem? (i := 54) (by decide +kernel), fun _ h => absurd h List.not_mem_nil⟩⟩⟩, i_c_X11_isIn⟩)⟩⟩⟩
set_option maxHeartbeats 4000000 in
set_option maxRecDepth 100000 in
theorem c_X11_isPlace (l : Launch) (dC : Nat → ClassId) (dI : Nat → Nat → Nat) (e0 : Nat) (g0 : Nat) (p0 : Int32) (mj mq mm ms mf ml : Nat) (th : Int32) (sz : Nat) : Met l yX11_isPlace v_c_X11_isPlace ({ frames := 2, cells := 0, slots := 0, locals := 50 }) (fz_P (dC, dI) e0 [(g0, .inr (16, [.ref mj, .ref mq, .ref mm, .ref ms, .ref mf, .ref ml, .int th, .int 0, .int 1, .int 0, .int (-1), .int 0, .int 0, .int 0, .int 0, .int 0, .long 0])), (mj, .inr (4, [.int 0, .ref e0, .int 0]))] [] sz (fun q : Nat => sz ≤ q) [.ref g0, .int p0]) (va_Qi (fun (r : Int32) (u : Unit) => r = 0) (fun (u : Unit) (t : State) => True) (fun q : Nat => sz ≤ q)) 0 0 (fun q : Nat => sz ≤ q) := by
  refine Met.ofW (cc := cX11_isPlace) (maxL := 2) (ret := (some .boolean)) (by decide) rfl ?_
  intro p e s m args below meth c s₁ B hml hv
  obtain ⟨rfl, hsz, hP, hK, hD0, hAm⟩ := hv
  have hx := B.exec
  have hb := B.bytes
  have hr := B.returns
  have hts := atoms_spec (ws := v_c_X11_isPlace) B.pre
  have hown : s.vm.findClass RX11 = some m.cls := findClass_of_methodNamed B.named
  have hlocks := B.notSynchronized
  subst hsz
  have hD := hD0
  generalize hAe : (fun q : Nat => s.heap.size ≤ q) = A at hAm ⊢
  have hA : ∀ q : Nat, s.heap.size ≤ q → A q := fun q h => by rw [← hAe]; exact h
  have hS : va_S A s.heap s.heap [] := va_S.rf
  have hP : va_P (dC, dI) vwCl [(g0, .inr (16, [.ref mj, .ref mq, .ref mm, .ref ms, .ref mf, .ref ml, .int th, .int 0, .int 1, .int 0, .int (-1), .int 0, .int 0, .int 0, .int 0, .int 0, .long 0])), (mj, .inr (4, [.int 0, .ref e0, .int 0]))] s.heap := hP
  have hl := lv_entry ([.ref g0, .int p0]) (n := 2) (Nat.le_of_ble_eq_true rfl)
  rw [lg_entry_eq]
  generalize (lg_sl ([.ref g0, .int p0]) ++ List.replicate (2 - (lg_sl ([.ref g0, .int p0])).length) Slot.unset).toArray = ls at hl ⊢
  have hl : lv_has ls 2 [(0, .ref g0), (1, .int p0)] := hl
  refine lv_iload_n hx hb dX11_isPlace_0 rfl (lv_at hl 1 rfl) ?_
  refine lv_i2l (v := p0.toInt64) hx hb dX11_isPlace_1 rfl ?_
  refine lv_lconst (v := (0 : Int32).toInt64) hx hb dX11_isPlace_2 (by decide) ?_
  refine lv_aload_n hx hb dX11_isPlace_3 rfl (lv_at hl 0 rfl) ?_
  have hPc := hP.sub (ws' := [(g0, .inr (16, [.ref mj, .ref mq, .ref mm, .ref ms, .ref mf, .ref ml, .int th, .int 0, .int 1, .int 0, .int (-1), .int 0, .int 0, .int 0, .int 0, .int 0, .long 0])), (mj, .inr (4, [.int 0, .ref e0, .int 0]))]) [0, 1] rfl
  have hDc := hD.sub (ws' := [(g0, .inr (16, [.ref mj, .ref mq, .ref mm, .ref ms, .ref mf, .ref ml, .int th, .int 0, .int 1, .int 0, .int (-1), .int 0, .int 0, .int 0, .int 0, .int 0, .long 0])), (mj, .inr (4, [.int 0, .ref e0, .int 0]))]) [0, 1] (by decide) rfl
  have hKc := hK.sub (tys' := []) [] rfl
  have hFc : ∀ q : Nat, s.heap.size ≤ q → A q := fun q h => hA q (Nat.le_trans hS.1 h)
  refine va_calli (va_runV (As := []) (rest := [.long ((0 : Int32).toInt64), .long p0.toInt64]) ⟨hx, hb, hml, hown, hts⟩ (c_X11_many l dC dI e0 g0 mj mq mm ms mf ml th (-1) s.heap.size) (cwV 0 hts (goodIn_sub (fun _ h9 => List.mem_cons_of_mem _ (List.mem_append_right _ (List.mem_append_left _ h9))) (by decide +kernel)) rfl rfl rfl (by decide +kernel) ⟨(Nat.le_of_ble_eq_true rfl), (Nat.le_of_ble_eq_true rfl)⟩) ⟨fz_blind, va_recv hKc hPc (ci := 16) (q0 := 0) rfl rfl, fz_pre hPc hKc hDc hAm hS hFc⟩ rfl rfl hl.1 rfl (lv_room (Nat.le_of_ble_eq_true rfl)) dX11_isPlace_4 ⟨(Nat.le_of_ble_eq_true rfl), (Nat.le_of_ble_eq_true rfl)⟩) hS (fun q _ h => hFc q h) hFc (fun r u t H1 locs ht hvm hw hB hz1 hk1 hS => ?_)
  obtain rfl := hw
  have hP := fz_keep hP hk1
  generalize H1 = H at hP hS ⊢
  have hP : va_P (dC, dI) vwCl [(g0, .inr (16, [.ref mj, .ref mq, .ref mm, .ref ms, .ref mf, .ref ml, .int th, .int 0, .int 1, .int 0, .int (-1), .int 0, .int 0, .int 0, .int 0, .int 0, .long 0])), (mj, .inr (4, [.int 0, .ref e0, .int 0]))] H := hP
  refine W.widen (k := 0) (n := 0) (Nat.le_of_ble_eq_true rfl) (Nat.le_of_ble_eq_true rfl) ?_
  refine lv_iconst (v := 1) hx hb dX11_isPlace_7 (by decide) ?_
  refine lv_isub hx hb dX11_isPlace_8 ?_
  refine lv_topi (fun z_9 e_9 => ?_)
  obtain rfl : (-1) = z_9 := (e_9.trans (by decide)).symm
  refine lv_i2l (v := ((-1) : Int32).toInt64) hx hb dX11_isPlace_9 rfl ?_
  have hPc := hP.sub (ws' := []) [] rfl
  have hDc := hD.sub (ws' := []) [] (by decide) rfl
  have hKc := hK.sub (tys' := []) [] rfl
  have hFc : ∀ q : Nat, H.size ≤ q → A q := fun q h => hA q (Nat.le_trans hS.1 h)
  refine va_calli (va_runS (As := [.long p0.toInt64, .long ((0 : Int32).toInt64), .long (((-1) : Int32).toInt64)]) (rest := []) ⟨hx, hb, hml, hown, hts⟩ (c_X11_isIn l dC dI e0 p0 0 (-1) H.size) (cwS 3 hts (goodIn_sub (fun _ h9 => List.mem_cons_of_mem _ (List.mem_append_right _ (List.mem_append_right _ h9))) (by decide +kernel)) rfl rfl rfl (by decide +kernel) ⟨(Nat.le_of_ble_eq_true rfl), (Nat.le_of_ble_eq_true rfl)⟩) ⟨fz_blind, fz_pre hPc hKc hDc hAm hS hFc⟩ rfl rfl hl.1 rfl (lv_room (Nat.le_of_ble_eq_true rfl)) dX11_isPlace_10 ⟨(Nat.le_of_ble_eq_true rfl), (Nat.le_of_ble_eq_true rfl)⟩) hS (fun q _ h => hFc q h) hFc (fun r u t H1 locs ht hvm hw hB hz1 hk1 hS => ?_)
  rcases hw with ⟨rfl, hp_1⟩ | ⟨rfl, hp_2⟩
  · exact absurd hp_1 (fz_in_no _)
  · have hP := fz_keep hP hk1
    generalize H1 = H at hP hS ⊢
    have hP : va_P (dC, dI) vwCl [(g0, .inr (16, [.ref mj, .ref mq, .ref mm, .ref ms, .ref mf, .ref ml, .int th, .int 0, .int 1, .int 0, .int (-1), .int 0, .int 0, .int 0, .int 0, .int 0, .long 0])), (mj, .inr (4, [.int 0, .ref e0, .int 0]))] H := hP
    refine W.widen (k := 0) (n := 0) (Nat.le_of_ble_eq_true rfl) (Nat.le_of_ble_eq_true rfl) ?_
    refine W.widen (k := 0) (n := 0) (Nat.le_of_ble_eq_true rfl) (Nat.le_of_ble_eq_true rfl) ?_
    exact W.zret (v := 0) hx hb hr rfl (fun t ht hW => ⟨⟨0, (), rfl, rfl, trivial⟩, hS.F ht⟩) hS.2.2 dX11_isPlace_13
def v_c_X11_noPlace : List Cond := .code yX11_noPlace cX11_noPlace 2 (some .boolean) :: ([] ++ (wsV RX11 61 RX11 yX11_isPlace v_c_X11_isPlace ++ (wsV RX11 65 RX11 yX11_no v_c_X11_no0)))
set_option maxRecDepth 20000 in
theorem i_c_X11_noPlace : ∀ w ∈ v_c_X11_noPlace, w ∈ lw_tbl := List.forall_mem_cons.mpr ⟨List.mem_of_getElem? (i := 1536) (by decide +kernel), List.forall_mem_append.mpr ⟨fun _ h => absurd h List.not_mem_nil, List.forall_mem_append.mpr ⟨(by unfold wsV; exact List.forall_mem_append.mpr ⟨List.forall_mem_cons.mpr ⟨List.mem_of_getElem? (i := 1537) (by decide +kernel), List.forall_mem_cons.mpr ⟨List.mem_of_getElem? (i := 1539) (by decide +kernel), List.forall_mem_cons.mpr ⟨List.mem_of_getElem? (i := 32) (by decide +kernel), List.forall_mem_cons.mpr ⟨List.mem_of_getElem? (i := 54) (by decide +kernel), fun _ h => absurd h List.not_mem_nil⟩⟩⟩⟩, i_c_X11_isPlace⟩), (by unfold wsV; exact List.forall_mem_append.mpr ⟨List.forall_mem_cons.mpr ⟨List.mem_of_getElem? (i := 1434) (by decide +kernel), List.forall_mem_cons.mpr ⟨List.mem_of_getElem? (i := 1436) (by decide +kernel), List.forall_mem_cons.mpr ⟨List.mem_of_getElem? (i := 25) (by decide +kernel), List.forall_mem_cons.mpr ⟨List.mem_of_getElem? (i := 54) (by decide +kernel), fun _ h => absurd h List.not_mem_nil⟩⟩⟩⟩, i_c_X11_no0⟩)⟩⟩⟩
set_option maxHeartbeats 4000000 in
set_option maxRecDepth 100000 in
theorem c_X11_noPlace (l : Launch) (dC : Nat → ClassId) (dI : Nat → Nat → Nat) (e0 : Nat) (g0 : Nat) (p0 : Int32) (mj mq mm ms mf ml : Nat) (th : Int32) (sz : Nat) : Met l yX11_noPlace v_c_X11_noPlace ({ frames := 3, cells := 0, slots := 0, locals := 71 }) (fz_P (dC, dI) e0 [(g0, .inr (16, [.ref mj, .ref mq, .ref mm, .ref ms, .ref mf, .ref ml, .int th, .int 0, .int 1, .int 0, .int (-1), .int 0, .int 0, .int 0, .int 0, .int 0, .long 0])), (mj, .inr (4, [.int 0, .ref e0, .int 0]))] [] sz (va_A [(g0, .inr (16, [.ref mj, .ref mq, .ref mm, .ref ms, .ref mf, .ref ml, .int th, .int 0, .int 1, .int 0, .int (-1), .int 0, .int 0, .int 0, .int 0, .int 0, .long 0])), (mj, .inr (4, [.int 0, .ref e0, .int 0]))] sz) [.ref g0, .int p0]) (va_Qi (fun (r : Int32) (u : Unit) => r = 1) (fun (u : Unit) (t : State) => va_P (dC, dI) vwCl [(g0, .inr (16, [.ref mj, .ref mq, .ref mm, .ref ms, .ref mf, .ref ml, .int 1, .int 0, .int 1, .int 0, .int (-1), .int 0, .int 0, .int 0, .int 0, .int 0, .long 0]))] t.heap ∧ va_K (dC, dI) vwCl [] t ∧ va_D (va_A [(g0, .inr (16, [.ref mj, .ref mq, .ref mm, .ref ms, .ref mf, .ref ml, .int th, .int 0, .int 1, .int 0, .int (-1), .int 0, .int 0, .int 0, .int 0, .int 0, .long 0])), (mj, .inr (4, [.int 0, .ref e0, .int 0]))] sz) [(g0, .inr (16, [.ref mj, .ref mq, .ref mm, .ref ms, .ref mf, .ref ml, .int 1, .int 0, .int 1, .int 0, .int (-1), .int 0, .int 0, .int 0, .int 0, .int 0, .long 0]))]) (va_A [(g0, .inr (16, [.ref mj, .ref mq, .ref mm, .ref ms, .ref mf, .ref ml, .int th, .int 0, .int 1, .int 0, .int (-1), .int 0, .int 0, .int 0, .int 0, .int 0, .long 0])), (mj, .inr (4, [.int 0, .ref e0, .int 0]))] sz)) 0 0 (va_A [(g0, .inr (16, [.ref mj, .ref mq, .ref mm, .ref ms, .ref mf, .ref ml, .int th, .int 0, .int 1, .int 0, .int (-1), .int 0, .int 0, .int 0, .int 0, .int 0, .long 0])), (mj, .inr (4, [.int 0, .ref e0, .int 0]))] sz) := by
  refine Met.ofW (cc := cX11_noPlace) (maxL := 2) (ret := (some .boolean)) (by decide) rfl ?_
  intro p e s m args below meth c s₁ B hml hv
  obtain ⟨rfl, hsz, hP, hK, hD0, hAm⟩ := hv
  have hx := B.exec
  have hb := B.bytes
  have hr := B.returns
  have hts := atoms_spec (ws := v_c_X11_noPlace) B.pre
  have hown : s.vm.findClass RX11 = some m.cls := findClass_of_methodNamed B.named
  have hlocks := B.notSynchronized
  subst hsz
  have hD := hD0.self (sz := s.heap.size)
  generalize hAe : va_A [(g0, .inr (16, [.ref mj, .ref mq, .ref mm, .ref ms, .ref mf, .ref ml, .int th, .int 0, .int 1, .int 0, .int (-1), .int 0, .int 0, .int 0, .int 0, .int 0, .long 0])), (mj, .inr (4, [.int 0, .ref e0, .int 0]))] s.heap.size = A at hD hAm ⊢
  have hA : ∀ q : Nat, s.heap.size ≤ q → A q := fun q h => by rw [← hAe]; exact Or.inr h
  have hS : va_S A s.heap s.heap [] := va_S.rf
  have hP : va_P (dC, dI) vwCl [(g0, .inr (16, [.ref mj, .ref mq, .ref mm, .ref ms, .ref mf, .ref ml, .int th, .int 0, .int 1, .int 0, .int (-1), .int 0, .int 0, .int 0, .int 0, .int 0, .long 0])), (mj, .inr (4, [.int 0, .ref e0, .int 0]))] s.heap := hP
  have hl := lv_entry ([.ref g0, .int p0]) (n := 2) (Nat.le_of_ble_eq_true rfl)
  rw [lg_entry_eq]
  generalize (lg_sl ([.ref g0, .int p0]) ++ List.replicate (2 - (lg_sl ([.ref g0, .int p0])).length) Slot.unset).toArray = ls at hl ⊢
  have hl : lv_has ls 2 [(0, .ref g0), (1, .int p0)] := hl
  refine lv_aload_n hx hb dX11_noPlace_0 rfl (lv_at hl 0 rfl) ?_
  refine lv_aload_n hx hb dX11_noPlace_1 rfl (lv_at hl 0 rfl) ?_
  refine lv_iload_n hx hb dX11_noPlace_2 rfl (lv_at hl 1 rfl) ?_
  have hPc := hP.sub (ws' := [(g0, .inr (16, [.ref mj, .ref mq, .ref mm, .ref ms, .ref mf, .ref ml, .int th, .int 0, .int 1, .int 0, .int (-1), .int 0, .int 0, .int 0, .int 0, .int 0, .long 0])), (mj, .inr (4, [.int 0, .ref e0, .int 0]))]) [0, 1] rfl
  have hDc := hD.sub (ws' := [(g0, .inr (16, [.ref mj, .ref mq, .ref mm, .ref ms, .ref mf, .ref ml, .int th, .int 0, .int 1, .int 0, .int (-1), .int 0, .int 0, .int 0, .int 0, .int 0, .long 0])), (mj, .inr (4, [.int 0, .ref e0, .int 0]))]) [0, 1] (by decide) rfl
  have hKc := hK.sub (tys' := []) [] rfl
  have hFc : ∀ q : Nat, s.heap.size ≤ q → A q := fun q h => hA q (Nat.le_trans hS.1 h)
  refine va_calli (va_runV (As := [.int p0]) (rest := [.ref g0]) ⟨hx, hb, hml, hown, hts⟩ (c_X11_isPlace l dC dI e0 g0 p0 mj mq mm ms mf ml th s.heap.size) (cwV 1 hts (goodIn_sub (fun _ h9 => List.mem_cons_of_mem _ (List.mem_append_right _ (List.mem_append_left _ h9))) (by decide +kernel)) rfl rfl rfl (by decide +kernel) ⟨(Nat.le_of_ble_eq_true rfl), (Nat.le_of_ble_eq_true rfl)⟩) ⟨fz_blind, va_recv hKc hPc (ci := 16) (q0 := 0) rfl rfl, fz_pre hPc hKc hDc hAm hS hFc⟩ rfl rfl hl.1 rfl (lv_room (Nat.le_of_ble_eq_true rfl)) dX11_noPlace_3 ⟨(Nat.le_of_ble_eq_true rfl), (Nat.le_of_ble_eq_true rfl)⟩) hS (fun q _ h => hFc q h) hFc (fun r u t H1 locs ht hvm hw hB hz1 hk1 hS => ?_)
  obtain rfl := hw
  have hP := fz_keep hP hk1
  generalize H1 = H at hP hS ⊢
  have hP : va_P (dC, dI) vwCl [(g0, .inr (16, [.ref mj, .ref mq, .ref mm, .ref ms, .ref mf, .ref ml, .int th, .int 0, .int 1, .int 0, .int (-1), .int 0, .int 0, .int 0, .int 0, .int 0, .long 0])), (mj, .inr (4, [.int 0, .ref e0, .int 0]))] H := hP
  have hD : va_D A [(g0, .inr (16, [.ref mj, .ref mq, .ref mm, .ref ms, .ref mf, .ref ml, .int th, .int 0, .int 1, .int 0, .int (-1), .int 0, .int 0, .int 0, .int 0, .int 0, .long 0])), (mj, .inr (4, [.int 0, .ref e0, .int 0]))] := hD
  refine W.widen (k := 0) (n := 0) (Nat.le_of_ble_eq_true rfl) (Nat.le_of_ble_eq_true rfl) ?_
  refine lv_iconst (v := 1) hx hb dX11_noPlace_6 (by decide) ?_
  have hPc := hP.sub (ws' := [(g0, .inr (16, [.ref mj, .ref mq, .ref mm, .ref ms, .ref mf, .ref ml, .int th, .int 0, .int 1, .int 0, .int (-1), .int 0, .int 0, .int 0, .int 0, .int 0, .long 0]))]) [0] rfl
  have hDc := hD.sub (ws' := [(g0, .inr (16, [.ref mj, .ref mq, .ref mm, .ref ms, .ref mf, .ref ml, .int th, .int 0, .int 1, .int 0, .int (-1), .int 0, .int 0, .int 0, .int 0, .int 0, .long 0]))]) [0] (by decide) rfl
  have hKc := hK.sub (tys' := []) [] rfl
  have hFc := va_free (wc := [(g0, .inr (16, [.ref mj, .ref mq, .ref mm, .ref ms, .ref mf, .ref ml, .int th, .int 0, .int 1, .int 0, .int (-1), .int 0, .int 0, .int 0, .int 0, .int 0, .long 0]))]) hD hS hA [0] rfl
  refine va_calli (va_runV (As := [.int 0, .int 1]) (rest := []) ⟨hx, hb, hml, hown, hts⟩ (c_X11_no0 l dC dI e0 g0 1 mj mq mm ms mf ml th H.size) (cwV 2 hts (goodIn_sub (fun _ h9 => List.mem_cons_of_mem _ (List.mem_append_right _ (List.mem_append_right _ h9))) (by decide +kernel)) rfl rfl rfl (by decide +kernel) ⟨(Nat.le_of_ble_eq_true rfl), (Nat.le_of_ble_eq_true rfl)⟩) ⟨fz_blind, va_recv hKc hPc (ci := 16) (q0 := 0) rfl rfl, fz_pre hPc hKc hDc hAm hS hFc⟩ rfl rfl hl.1 rfl (lv_room (Nat.le_of_ble_eq_true rfl)) dX11_noPlace_7 ⟨(Nat.le_of_ble_eq_true rfl), (Nat.le_of_ble_eq_true rfl)⟩) hS (fun q _ h => hFc q h) hFc (fun r u t H1 locs ht hvm hw hB hz1 hk1 hS => ?_)
  obtain rfl := hw
  obtain ⟨hP1, hK1, hD1⟩ := hB
  rw [ht] at hP1
  have hK1 := va_K.moved hvm.symm hK1
  obtain ⟨hP, hD⟩ := va_join (wr := [(mj, .inr (4, [.int 0, .ref e0, .int 0]))]) (w1 := [(g0, .inr (16, [.ref mj, .ref mq, .ref mm, .ref ms, .ref mf, .ref ml, .int 1, .int 0, .int 1, .int 0, .int (-1), .int 0, .int 0, .int 0, .int 0, .int 0, .long 0]))]) hP hD [0] [1] rfl rfl (by decide) (by decide) hk1 hFc hP1 hD1
  generalize H1 = H at hP hS ⊢
  have hP : va_P (dC, dI) vwCl [(mj, .inr (4, [.int 0, .ref e0, .int 0])), (g0, .inr (16, [.ref mj, .ref mq, .ref mm, .ref ms, .ref mf, .ref ml, .int 1, .int 0, .int 1, .int 0, .int (-1), .int 0, .int 0, .int 0, .int 0, .int 0, .long 0]))] H := hP
  have hD : va_D A [(mj, .inr (4, [.int 0, .ref e0, .int 0])), (g0, .inr (16, [.ref mj, .ref mq, .ref mm, .ref ms, .ref mf, .ref ml, .int 1, .int 0, .int 1, .int 0, .int (-1), .int 0, .int 0, .int 0, .int 0, .int 0, .long 0]))] := hD
  have hK : va_K (dC, dI) vwCl [] s := hK
  refine W.widen (k := 0) (n := 0) (Nat.le_of_ble_eq_true rfl) (Nat.le_of_ble_eq_true rfl) ?_
  have hP9 := hP.sub (ws' := [(g0, .inr (16, [.ref mj, .ref mq, .ref mm, .ref ms, .ref mf, .ref ml, .int 1, .int 0, .int 1, .int 0, .int (-1), .int 0, .int 0, .int 0, .int 0, .int 0, .long 0]))]) [1] rfl
  have hD9 := hD.sub (ws' := [(g0, .inr (16, [.ref mj, .ref mq, .ref mm, .ref ms, .ref mf, .ref ml, .int 1, .int 0, .int 1, .int 0, .int (-1), .int 0, .int 0, .int 0, .int 0, .int 0, .long 0]))]) [1] (by decide) rfl
  have hK9 := hK.sub (tys' := []) [] rfl
  refine W.widen (k := 0) (n := 0) (Nat.le_of_ble_eq_true rfl) (Nat.le_of_ble_eq_true rfl) ?_
  exact W.zret (v := 1) hx hb hr rfl (fun t ht hW => ⟨⟨1, (), rfl, rfl, ⟨by rw [ht]; exact hP9, va_K.moved hW.alike hK9, hD9⟩⟩, hS.F ht⟩) hS.2.2 dX11_noPlace_10
def v_c_X11_isStone : List Cond := .code yX11_isStone cX11_isStone 2 (some .boolean) :: ([.fieldLink RX11 22 "VoussoirYardModel" "stones" "Ljava/util/List;"] ++ (wsX110 ++ (va_wsF RX11 42 RJx4a65c ⟨"java/util/List", "size", "()I"⟩ yJx4a65c_size_8abf5 v_c_Jx4_size ++ (wsS RX11 57 yX11_isIn v_c_X11_isIn))))
set_option maxRecDepth 20000 in
theorem i_c_X11_isStone : ∀ w ∈ v_c_X11_isStone, w ∈ lw_tbl := List.forall_mem_cons.mpr ⟨List.mem_of_getElem? (i := 1804) (by decide +kernel), List.forall_mem_append.mpr ⟨List.forall_mem_cons.mpr ⟨List.mem_of_getElem? (i := 1327) (by decide +kernel), fun _ h => absurd h List.not_mem_nil⟩, List.forall_mem_append.mpr ⟨inX11, List.forall_mem_append.mpr ⟨(by unfold va_wsF; exact List.forall_mem_append.mpr ⟨List.forall_mem_cons.mpr ⟨List.mem_of_getElem? (i := 1402) (by decide +kernel), List.forall_mem_cons.mpr ⟨List.mem_of_getElem? (i := 1405) (by decide +kernel), List.forall_mem_cons.mpr ⟨List.mem_of_getElem? (i := 1407) (by decide +kernel), List.forall_mem_cons.mpr ⟨List.mem_of_getElem? (i := 57) (by decide +kernel), fun _ h => absurd h List.not_mem_nil⟩⟩⟩⟩, i_c_Jx4_size⟩), (by unfold wsS; exact List.forall_mem_append.mpr ⟨List.forall_mem_cons.mpr ⟨List.mem_of_getElem? (i := 1388) (by decide +kernel), List.forall_mem_cons.mpr ⟨List.mem_of_getElem? (i := 1389) (by decide +kernel), List.forall_mem_cons.mpr ⟨List.mem_of_getElem? (i := 54) (by decide +kernel), fun _ h => absurd h List.not_mem_nil⟩⟩⟩, i_c_X11_isIn⟩)⟩⟩⟩⟩
set_option maxHeartbeats 4000000 in
set_option maxRecDepth 100000 in
theorem c_X11_isStone (l : Launch) (dC : Nat → ClassId) (dI : Nat → Nat → Nat) (e0 : Nat) (g0 : Nat) (p0 : Int32) (mj mq mm ms mf ml : Nat) (th : Int32) (sz : Nat) : Met l yX11_isStone v_c_X11_isStone ({ frames := 1, cells := 0, slots := 0, locals := 25 }) (fz_P (dC, dI) e0 [(g0, .inr (16, [.ref mj, .ref mq, .ref mm, .ref ms, .ref mf, .ref ml, .int th, .int 0, .int 1, .int 0, .int (-1), .int 0, .int 0, .int 0, .int 0, .int 0, .long 0])), (ms, .inr (4, [.int 0, .ref e0, .int 0]))] [] sz (fun q : Nat => sz ≤ q) [.ref g0, .int p0]) (va_Qi (fun (r : Int32) (u : Unit) => r = 0) (fun (u : Unit) (t : State) => True) (fun q : Nat => sz ≤ q)) 0 0 (fun q : Nat => sz ≤ q) := by
  refine Met.ofW (cc := cX11_isStone) (maxL := 2) (ret := (some .boolean)) (by decide) rfl ?_
  intro p e s m args below meth c s₁ B hml hv
  obtain ⟨rfl, hsz, hP, hK, hD0, hAm⟩ := hv
  have hx := B.exec
  have hb := B.bytes
  have hr := B.returns
  have hts := atoms_spec (ws := v_c_X11_isStone) B.pre
  have hown : s.vm.findClass RX11 = some m.cls := findClass_of_methodNamed B.named
  have hlocks := B.notSynchronized
  subst hsz
  have hD := hD0
  generalize hAe : (fun q : Nat => s.heap.size ≤ q) = A at hAm ⊢
  have hA : ∀ q : Nat, s.heap.size ≤ q → A q := fun q h => by rw [← hAe]; exact h
  have hS : va_S A s.heap s.heap [] := va_S.rf
  have hP : va_P (dC, dI) vwCl [(g0, .inr (16, [.ref mj, .ref mq, .ref mm, .ref ms, .ref mf, .ref ml, .int th, .int 0, .int 1, .int 0, .int (-1), .int 0, .int 0, .int 0, .int 0, .int 0, .long 0])), (ms, .inr (4, [.int 0, .ref e0, .int 0]))] s.heap := hP
  have hl := lv_entry ([.ref g0, .int p0]) (n := 2) (Nat.le_of_ble_eq_true rfl)
  rw [lg_entry_eq]
  generalize (lg_sl ([.ref g0, .int p0]) ++ List.replicate (2 - (lg_sl ([.ref g0, .int p0])).length) Slot.unset).toArray = ls at hl ⊢
  have hl : lv_has ls 2 [(0, .ref g0), (1, .int p0)] := hl
  refine lv_iload_n hx hb dX11_isStone_0 rfl (lv_at hl 1 rfl) ?_
  refine lv_i2l (v := p0.toInt64) hx hb dX11_isStone_1 rfl ?_
  refine lv_lconst (v := (0 : Int32).toInt64) hx hb dX11_isStone_2 (by decide) ?_
  refine lv_aload_n hx hb dX11_isStone_3 rfl (lv_at hl 0 rfl) ?_
  refine va_get (D := (dC, dI)) (ci := 16) (v := .ref ms) (C := RX11) (T := TX11) (N := 17) hx hb hts (fun _ h9 => List.mem_cons_of_mem _ (List.mem_append_right _ (List.mem_append_left _ h9))) hown hK hP 0 rfl rfl 3 (by decide) (hts _ (List.mem_cons_of_mem _ (List.mem_append_left _ (List.mem_of_getElem? (i := 0) rfl)))) (fun _ h9 => h9) rfl dX11_isStone_4 ?_
  have hPc := hP.sub (ws' := [(ms, .inr (4, [.int 0, .ref e0, .int 0]))]) [1] rfl
  have hDc := hD.sub (ws' := [(ms, .inr (4, [.int 0, .ref e0, .int 0]))]) [1] (by decide) rfl
  have hKc := hK.sub (tys' := []) [] rfl
  have hFc : ∀ q : Nat, s.heap.size ≤ q → A q := fun q h => hA q (Nat.le_trans hS.1 h)
  refine va_callFi (va_runF (As := []) (rest := [.long ((0 : Int32).toInt64), .long p0.toInt64]) (hK.1 4 _ rfl).2 ⟨hx, hb, hml, hown, hts⟩ (c_Jx4_size l dC dI e0 ms 0 e0 0 s.heap.size) (va_cwF 0 hts (goodIn_sub (fun _ h9 => List.mem_cons_of_mem _ (List.mem_append_right _ (List.mem_append_right _ (List.mem_append_left _ h9)))) (by decide +kernel)) rfl rfl rfl hAm.1.2.2.2.1.2.1 (by decide +kernel) ⟨(Nat.le_of_ble_eq_true rfl), (Nat.le_of_ble_eq_true rfl)⟩) ⟨fz_blind, va_recv hKc hPc (ci := 4) (q0 := 0) rfl rfl, fz_pre hPc hKc hDc hAm hS hFc⟩ rfl rfl hl.1 rfl (lv_room (Nat.le_of_ble_eq_true rfl)) dX11_isStone_7 ⟨(Nat.le_of_ble_eq_true rfl), (Nat.le_of_ble_eq_true rfl)⟩) hS (fun q _ h => hFc q h) hFc (fun r u t H1 locs ht hvm hw hB hz1 hk1 hS => ?_)
  obtain rfl := hw
  have hP := fz_keep hP hk1
  generalize H1 = H at hP hS ⊢
  have hP : va_P (dC, dI) vwCl [(g0, .inr (16, [.ref mj, .ref mq, .ref mm, .ref ms, .ref mf, .ref ml, .int th, .int 0, .int 1, .int 0, .int (-1), .int 0, .int 0, .int 0, .int 0, .int 0, .long 0])), (ms, .inr (4, [.int 0, .ref e0, .int 0]))] H := hP
  refine W.widen (k := 0) (n := 0) (Nat.le_of_ble_eq_true rfl) (Nat.le_of_ble_eq_true rfl) ?_
  refine lv_iconst (v := 1) hx hb dX11_isStone_12 (by decide) ?_
  refine lv_isub hx hb dX11_isStone_13 ?_
  refine lv_topi (fun z_9 e_9 => ?_)
  obtain rfl : (-1) = z_9 := (e_9.trans (by decide)).symm
  refine lv_i2l (v := ((-1) : Int32).toInt64) hx hb dX11_isStone_14 rfl ?_
  have hPc := hP.sub (ws' := []) [] rfl
  have hDc := hD.sub (ws' := []) [] (by decide) rfl
  have hKc := hK.sub (tys' := []) [] rfl
  have hFc : ∀ q : Nat, H.size ≤ q → A q := fun q h => hA q (Nat.le_trans hS.1 h)
  refine va_calli (va_runS (As := [.long p0.toInt64, .long ((0 : Int32).toInt64), .long (((-1) : Int32).toInt64)]) (rest := []) ⟨hx, hb, hml, hown, hts⟩ (c_X11_isIn l dC dI e0 p0 0 (-1) H.size) (cwS 3 hts (goodIn_sub (fun _ h9 => List.mem_cons_of_mem _ (List.mem_append_right _ (List.mem_append_right _ (List.mem_append_right _ h9)))) (by decide +kernel)) rfl rfl rfl (by decide +kernel) ⟨(Nat.le_of_ble_eq_true rfl), (Nat.le_of_ble_eq_true rfl)⟩) ⟨fz_blind, fz_pre hPc hKc hDc hAm hS hFc⟩ rfl rfl hl.1 rfl (lv_room (Nat.le_of_ble_eq_true rfl)) dX11_isStone_15 ⟨(Nat.le_of_ble_eq_true rfl), (Nat.le_of_ble_eq_true rfl)⟩) hS (fun q _ h => hFc q h) hFc (fun r u t H1 locs ht hvm hw hB hz1 hk1 hS => ?_)
  rcases hw with ⟨rfl, hp_1⟩ | ⟨rfl, hp_2⟩
  · exact absurd hp_1 (fz_in_no _)
  · have hP := fz_keep hP hk1
    generalize H1 = H at hP hS ⊢
    have hP : va_P (dC, dI) vwCl [(g0, .inr (16, [.ref mj, .ref mq, .ref mm, .ref ms, .ref mf, .ref ml, .int th, .int 0, .int 1, .int 0, .int (-1), .int 0, .int 0, .int 0, .int 0, .int 0, .long 0])), (ms, .inr (4, [.int 0, .ref e0, .int 0]))] H := hP
    refine W.widen (k := 0) (n := 0) (Nat.le_of_ble_eq_true rfl) (Nat.le_of_ble_eq_true rfl) ?_
    refine W.widen (k := 0) (n := 0) (Nat.le_of_ble_eq_true rfl) (Nat.le_of_ble_eq_true rfl) ?_
    exact W.zret (v := 0) hx hb hr rfl (fun t ht hW => ⟨⟨0, (), rfl, rfl, trivial⟩, hS.F ht⟩) hS.2.2 dX11_isStone_18
def v_c_X11_noStone : List Cond := .code yX11_noStone cX11_noStone 2 (some .boolean) :: ([] ++ (wsV RX11 287 RX11 yX11_isStone v_c_X11_isStone ++ (wsV RX11 65 RX11 yX11_no v_c_X11_no0)))
set_option maxRecDepth 20000 in
theorem i_c_X11_noStone : ∀ w ∈ v_c_X11_noStone, w ∈ lw_tbl := List.forall_mem_cons.mpr ⟨List.mem_of_getElem? (i := 1800) (by decide +kernel), List.forall_mem_append.mpr ⟨fun _ h => absurd h List.not_mem_nil, List.forall_mem_append.mpr ⟨(by unfold wsV; exact List.forall_mem_append.mpr ⟨List.forall_mem_cons.mpr ⟨List.mem_of_getElem? (i := 1801) (by decide +kernel), List.forall_mem_cons.mpr ⟨List.mem_of_getElem? (i := 1803) (by decide +kernel), List.forall_mem_cons.mpr ⟨List.mem_of_getElem? (i := 44) (by decide +kernel), List.forall_mem_cons.mpr ⟨List.mem_of_getElem? (i := 54) (by decide +kernel), fun _ h => absurd h List.not_mem_nil⟩⟩⟩⟩, i_c_X11_isStone⟩), (by unfold wsV; exact List.forall_mem_append.mpr ⟨List.forall_mem_cons.mpr ⟨List.mem_of_getElem? (i := 1434) (by decide +kernel), List.forall_mem_cons.mpr ⟨List.mem_of_getElem? (i := 1436) (by decide +kernel), List.forall_mem_cons.mpr ⟨List.mem_of_getElem? (i := 25) (by decide +kernel), List.forall_mem_cons.mpr ⟨List.mem_of_getElem? (i := 54) (by decide +kernel), fun _ h => absurd h List.not_mem_nil⟩⟩⟩⟩, i_c_X11_no0⟩)⟩⟩⟩
set_option maxHeartbeats 4000000 in
set_option maxRecDepth 100000 in
theorem c_X11_noStone (l : Launch) (dC : Nat → ClassId) (dI : Nat → Nat → Nat) (e0 : Nat) (g0 : Nat) (p0 : Int32) (mj mq mm ms mf ml : Nat) (th : Int32) (sz : Nat) : Met l yX11_noStone v_c_X11_noStone ({ frames := 2, cells := 0, slots := 0, locals := 46 }) (fz_P (dC, dI) e0 [(g0, .inr (16, [.ref mj, .ref mq, .ref mm, .ref ms, .ref mf, .ref ml, .int th, .int 0, .int 1, .int 0, .int (-1), .int 0, .int 0, .int 0, .int 0, .int 0, .long 0])), (ms, .inr (4, [.int 0, .ref e0, .int 0]))] [] sz (va_A [(g0, .inr (16, [.ref mj, .ref mq, .ref mm, .ref ms, .ref mf, .ref ml, .int th, .int 0, .int 1, .int 0, .int (-1), .int 0, .int 0, .int 0, .int 0, .int 0, .long 0])), (ms, .inr (4, [.int 0, .ref e0, .int 0]))] sz) [.ref g0, .int p0]) (va_Qi (fun (r : Int32) (u : Unit) => r = 1) (fun (u : Unit) (t : State) => va_P (dC, dI) vwCl [(g0, .inr (16, [.ref mj, .ref mq, .ref mm, .ref ms, .ref mf, .ref ml, .int 1, .int 0, .int 1, .int 0, .int (-1), .int 0, .int 0, .int 0, .int 0, .int 0, .long 0]))] t.heap ∧ va_K (dC, dI) vwCl [] t ∧ va_D (va_A [(g0, .inr (16, [.ref mj, .ref mq, .ref mm, .ref ms, .ref mf, .ref ml, .int th, .int 0, .int 1, .int 0, .int (-1), .int 0, .int 0, .int 0, .int 0, .int 0, .long 0])), (ms, .inr (4, [.int 0, .ref e0, .int 0]))] sz) [(g0, .inr (16, [.ref mj, .ref mq, .ref mm, .ref ms, .ref mf, .ref ml, .int 1, .int 0, .int 1, .int 0, .int (-1), .int 0, .int 0, .int 0, .int 0, .int 0, .long 0]))]) (va_A [(g0, .inr (16, [.ref mj, .ref mq, .ref mm, .ref ms, .ref mf, .ref ml, .int th, .int 0, .int 1, .int 0, .int (-1), .int 0, .int 0, .int 0, .int 0, .int 0, .long 0])), (ms, .inr (4, [.int 0, .ref e0, .int 0]))] sz)) 0 0 (va_A [(g0, .inr (16, [.ref mj, .ref mq, .ref mm, .ref ms, .ref mf, .ref ml, .int th, .int 0, .int 1, .int 0, .int (-1), .int 0, .int 0, .int 0, .int 0, .int 0, .long 0])), (ms, .inr (4, [.int 0, .ref e0, .int 0]))] sz) := by
  refine Met.ofW (cc := cX11_noStone) (maxL := 2) (ret := (some .boolean)) (by decide) rfl ?_
  intro p e s m args below meth c s₁ B hml hv
  obtain ⟨rfl, hsz, hP, hK, hD0, hAm⟩ := hv
  have hx := B.exec
  have hb := B.bytes
  have hr := B.returns
  have hts := atoms_spec (ws := v_c_X11_noStone) B.pre
  have hown : s.vm.findClass RX11 = some m.cls := findClass_of_methodNamed B.named
  have hlocks := B.notSynchronized
  subst hsz
  have hD := hD0.self (sz := s.heap.size)
  generalize hAe : va_A [(g0, .inr (16, [.ref mj, .ref mq, .ref mm, .ref ms, .ref mf, .ref ml, .int th, .int 0, .int 1, .int 0, .int (-1), .int 0, .int 0, .int 0, .int 0, .int 0, .long 0])), (ms, .inr (4, [.int 0, .ref e0, .int 0]))] s.heap.size = A at hD hAm ⊢
  have hA : ∀ q : Nat, s.heap.size ≤ q → A q := fun q h => by rw [← hAe]; exact Or.inr h
  have hS : va_S A s.heap s.heap [] := va_S.rf
  have hP : va_P (dC, dI) vwCl [(g0, .inr (16, [.ref mj, .ref mq, .ref mm, .ref ms, .ref mf, .ref ml, .int th, .int 0, .int 1, .int 0, .int (-1), .int 0, .int 0, .int 0, .int 0, .int 0, .long 0])), (ms, .inr (4, [.int 0, .ref e0, .int 0]))] s.heap := hP
  have hl := lv_entry ([.ref g0, .int p0]) (n := 2) (Nat.le_of_ble_eq_true rfl)
  rw [lg_entry_eq]
  generalize (lg_sl ([.ref g0, .int p0]) ++ List.replicate (2 - (lg_sl ([.ref g0, .int p0])).length) Slot.unset).toArray = ls at hl ⊢
  have hl : lv_has ls 2 [(0, .ref g0), (1, .int p0)] := hl
  refine lv_aload_n hx hb dX11_noStone_0 rfl (lv_at hl 0 rfl) ?_
  refine lv_aload_n hx hb dX11_noStone_1 rfl (lv_at hl 0 rfl) ?_
  refine lv_iload_n hx hb dX11_noStone_2 rfl (lv_at hl 1 rfl) ?_
  have hPc := hP.sub (ws' := [(g0, .inr (16, [.ref mj, .ref mq, .ref mm, .ref ms, .ref mf, .ref ml, .int th, .int 0, .int 1, .int 0, .int (-1), .int 0, .int 0, .int 0, .int 0, .int 0, .long 0])), (ms, .inr (4, [.int 0, .ref e0, .int 0]))]) [0, 1] rfl
  have hDc := hD.sub (ws' := [(g0, .inr (16, [.ref mj, .ref mq, .ref mm, .ref ms, .ref mf, .ref ml, .int th, .int 0, .int 1, .int 0, .int (-1), .int 0, .int 0, .int 0, .int 0, .int 0, .long 0])), (ms, .inr (4, [.int 0, .ref e0, .int 0]))]) [0, 1] (by decide) rfl
  have hKc := hK.sub (tys' := []) [] rfl
  have hFc : ∀ q : Nat, s.heap.size ≤ q → A q := fun q h => hA q (Nat.le_trans hS.1 h)
  refine va_calli (va_runV (As := [.int p0]) (rest := [.ref g0]) ⟨hx, hb, hml, hown, hts⟩ (c_X11_isStone l dC dI e0 g0 p0 mj mq mm ms mf ml th s.heap.size) (cwV 1 hts (goodIn_sub (fun _ h9 => List.mem_cons_of_mem _ (List.mem_append_right _ (List.mem_append_left _ h9))) (by decide +kernel)) rfl rfl rfl (by decide +kernel) ⟨(Nat.le_of_ble_eq_true rfl), (Nat.le_of_ble_eq_true rfl)⟩) ⟨fz_blind, va_recv hKc hPc (ci := 16) (q0 := 0) rfl rfl, fz_pre hPc hKc hDc hAm hS hFc⟩ rfl rfl hl.1 rfl (lv_room (Nat.le_of_ble_eq_true rfl)) dX11_noStone_3 ⟨(Nat.le_of_ble_eq_true rfl), (Nat.le_of_ble_eq_true rfl)⟩) hS (fun q _ h => hFc q h) hFc (fun r u t H1 locs ht hvm hw hB hz1 hk1 hS => ?_)
  obtain rfl := hw
  have hP := fz_keep hP hk1
  generalize H1 = H at hP hS ⊢
  have hP : va_P (dC, dI) vwCl [(g0, .inr (16, [.ref mj, .ref mq, .ref mm, .ref ms, .ref mf, .ref ml, .int th, .int 0, .int 1, .int 0, .int (-1), .int 0, .int 0, .int 0, .int 0, .int 0, .long 0])), (ms, .inr (4, [.int 0, .ref e0, .int 0]))] H := hP
  have hD : va_D A [(g0, .inr (16, [.ref mj, .ref mq, .ref mm, .ref ms, .ref mf, .ref ml, .int th, .int 0, .int 1, .int 0, .int (-1), .int 0, .int 0, .int 0, .int 0, .int 0, .long 0])), (ms, .inr (4, [.int 0, .ref e0, .int 0]))] := hD
  refine W.widen (k := 0) (n := 0) (Nat.le_of_ble_eq_true rfl) (Nat.le_of_ble_eq_true rfl) ?_
  refine lv_iconst (v := 1) hx hb dX11_noStone_6 (by decide) ?_
  have hPc := hP.sub (ws' := [(g0, .inr (16, [.ref mj, .ref mq, .ref mm, .ref ms, .ref mf, .ref ml, .int th, .int 0, .int 1, .int 0, .int (-1), .int 0, .int 0, .int 0, .int 0, .int 0, .long 0]))]) [0] rfl
  have hDc := hD.sub (ws' := [(g0, .inr (16, [.ref mj, .ref mq, .ref mm, .ref ms, .ref mf, .ref ml, .int th, .int 0, .int 1, .int 0, .int (-1), .int 0, .int 0, .int 0, .int 0, .int 0, .long 0]))]) [0] (by decide) rfl
  have hKc := hK.sub (tys' := []) [] rfl
  have hFc := va_free (wc := [(g0, .inr (16, [.ref mj, .ref mq, .ref mm, .ref ms, .ref mf, .ref ml, .int th, .int 0, .int 1, .int 0, .int (-1), .int 0, .int 0, .int 0, .int 0, .int 0, .long 0]))]) hD hS hA [0] rfl
  refine va_calli (va_runV (As := [.int 0, .int 1]) (rest := []) ⟨hx, hb, hml, hown, hts⟩ (c_X11_no0 l dC dI e0 g0 1 mj mq mm ms mf ml th H.size) (cwV 2 hts (goodIn_sub (fun _ h9 => List.mem_cons_of_mem _ (List.mem_append_right _ (List.mem_append_right _ h9))) (by decide +kernel)) rfl rfl rfl (by decide +kernel) ⟨(Nat.le_of_ble_eq_true rfl), (Nat.le_of_ble_eq_true rfl)⟩) ⟨fz_blind, va_recv hKc hPc (ci := 16) (q0 := 0) rfl rfl, fz_pre hPc hKc hDc hAm hS hFc⟩ rfl rfl hl.1 rfl (lv_room (Nat.le_of_ble_eq_true rfl)) dX11_noStone_7 ⟨(Nat.le_of_ble_eq_true rfl), (Nat.le_of_ble_eq_true rfl)⟩) hS (fun q _ h => hFc q h) hFc (fun r u t H1 locs ht hvm hw hB hz1 hk1 hS => ?_)
  obtain rfl := hw
  obtain ⟨hP1, hK1, hD1⟩ := hB
  rw [ht] at hP1
  have hK1 := va_K.moved hvm.symm hK1
  obtain ⟨hP, hD⟩ := va_join (wr := [(ms, .inr (4, [.int 0, .ref e0, .int 0]))]) (w1 := [(g0, .inr (16, [.ref mj, .ref mq, .ref mm, .ref ms, .ref mf, .ref ml, .int 1, .int 0, .int 1, .int 0, .int (-1), .int 0, .int 0, .int 0, .int 0, .int 0, .long 0]))]) hP hD [0] [1] rfl rfl (by decide) (by decide) hk1 hFc hP1 hD1
  generalize H1 = H at hP hS ⊢
  have hP : va_P (dC, dI) vwCl [(ms, .inr (4, [.int 0, .ref e0, .int 0])), (g0, .inr (16, [.ref mj, .ref mq, .ref mm, .ref ms, .ref mf, .ref ml, .int 1, .int 0, .int 1, .int 0, .int (-1), .int 0, .int 0, .int 0, .int 0, .int 0, .long 0]))] H := hP
  have hD : va_D A [(ms, .inr (4, [.int 0, .ref e0, .int 0])), (g0, .inr (16, [.ref mj, .ref mq, .ref mm, .ref ms, .ref mf, .ref ml, .int 1, .int 0, .int 1, .int 0, .int (-1), .int 0, .int 0, .int 0, .int 0, .int 0, .long 0]))] := hD
  have hK : va_K (dC, dI) vwCl [] s := hK
  refine W.widen (k := 0) (n := 0) (Nat.le_of_ble_eq_true rfl) (Nat.le_of_ble_eq_true rfl) ?_
  have hP9 := hP.sub (ws' := [(g0, .inr (16, [.ref mj, .ref mq, .ref mm, .ref ms, .ref mf, .ref ml, .int 1, .int 0, .int 1, .int 0, .int (-1), .int 0, .int 0, .int 0, .int 0, .int 0, .long 0]))]) [1] rfl
  have hD9 := hD.sub (ws' := [(g0, .inr (16, [.ref mj, .ref mq, .ref mm, .ref ms, .ref mf, .ref ml, .int 1, .int 0, .int 1, .int 0, .int (-1), .int 0, .int 0, .int 0, .int 0, .int 0, .long 0]))]) [1] (by decide) rfl
  have hK9 := hK.sub (tys' := []) [] rfl
  refine W.widen (k := 0) (n := 0) (Nat.le_of_ble_eq_true rfl) (Nat.le_of_ble_eq_true rfl) ?_
  exact W.zret (v := 1) hx hb hr rfl (fun t ht hW => ⟨⟨1, (), rfl, rfl, ⟨by rw [ht]; exact hP9, va_K.moved hW.alike hK9, hD9⟩⟩, hS.F ht⟩) hS.2.2 dX11_noStone_10
def v_c_X11_isGrip : List Cond := .code yX11_isGrip cX11_isGrip 2 (some .boolean) :: ([.constantLong RX11 122 10] ++ (wsS RX11 57 yX11_isIn v_c_X11_isIn))
set_option maxRecDepth 20000 in
theorem i_c_X11_isGrip : ∀ w ∈ v_c_X11_isGrip, w ∈ lw_tbl := List.forall_mem_cons.mpr ⟨List.mem_of_getElem? (i := 1564) (by decide +kernel), List.forall_mem_append.mpr ⟨List.forall_mem_cons.mpr ⟨List.mem_of_getElem? (i := 1565) (by decide +kernel), fun _ h => absurd h List.not_mem_nil⟩, (by unfold wsS; exact List.forall_mem_append.mpr ⟨List.forall_mem_cons.mpr ⟨List.mem_of_getElem? (i := 1388) (by decide +kernel), List.forall_mem_cons.mpr ⟨List.mem_of_getElem? (i := 1389) (by decide +kernel), List.forall_mem_cons.mpr ⟨List.mem_of_getElem? (i := 54) (by decide +kernel), fun _ h => absurd h List.not_mem_nil⟩⟩⟩, i_c_X11_isIn⟩)⟩⟩
set_option maxHeartbeats 4000000 in
set_option maxRecDepth 100000 in
theorem c_X11_isGrip (l : Launch) (dC : Nat → ClassId) (dI : Nat → Nat → Nat) (e0 : Nat) (g0 : Nat) (p0 : Int32) (mj mq mm ms mf ml : Nat) (th : Int32) (sz : Nat) : Met l yX11_isGrip v_c_X11_isGrip ({ frames := 1, cells := 0, slots := 0, locals := 25 }) (fz_P (dC, dI) e0 [(g0, .inr (16, [.ref mj, .ref mq, .ref mm, .ref ms, .ref mf, .ref ml, .int th, .int 0, .int 1, .int 0, .int (-1), .int 0, .int 0, .int 0, .int 0, .int 0, .long 0]))] [] sz (fun q : Nat => sz ≤ q) [.ref g0, .int p0]) (va_Qi (fun (r : Int32) (u : Unit) => (r = 1 ∧ fz_in p0 0 10) ∨ (r = 0 ∧ ¬ fz_in p0 0 10)) (fun (u : Unit) (t : State) => True) (fun q : Nat => sz ≤ q)) 0 0 (fun q : Nat => sz ≤ q) := by
  refine Met.ofW (cc := cX11_isGrip) (maxL := 2) (ret := (some .boolean)) (by decide) rfl ?_
  intro p e s m args below meth c s₁ B hml hv
  obtain ⟨rfl, hsz, hP, hK, hD0, hAm⟩ := hv
  have hx := B.exec
  have hb := B.bytes
  have hr := B.returns
  have hts := atoms_spec (ws := v_c_X11_isGrip) B.pre
  have hown : s.vm.findClass RX11 = some m.cls := findClass_of_methodNamed B.named
  have hlocks := B.notSynchronized
  subst hsz
  have hD := hD0
  generalize hAe : (fun q : Nat => s.heap.size ≤ q) = A at hAm ⊢
  have hA : ∀ q : Nat, s.heap.size ≤ q → A q := fun q h => by rw [← hAe]; exact h
  have hS : va_S A s.heap s.heap [] := va_S.rf
  have hP : va_P (dC, dI) vwCl [(g0, .inr (16, [.ref mj, .ref mq, .ref mm, .ref ms, .ref mf, .ref ml, .int th, .int 0, .int 1, .int 0, .int (-1), .int 0, .int 0, .int 0, .int 0, .int 0, .long 0]))] s.heap := hP
  have hl := lv_entry ([.ref g0, .int p0]) (n := 2) (Nat.le_of_ble_eq_true rfl)
  rw [lg_entry_eq]
  generalize (lg_sl ([.ref g0, .int p0]) ++ List.replicate (2 - (lg_sl ([.ref g0, .int p0])).length) Slot.unset).toArray = ls at hl ⊢
  have hl : lv_has ls 2 [(0, .ref g0), (1, .int p0)] := hl
  refine lv_iload_n hx hb dX11_isGrip_0 rfl (lv_at hl 1 rfl) ?_
  refine lv_i2l (v := p0.toInt64) hx hb dX11_isGrip_1 rfl ?_
  refine lv_lconst (v := (0 : Int32).toInt64) hx hb dX11_isGrip_2 (by decide) ?_
  refine lv_ldc2 (v := 10) hx hb hown (hts _ (List.mem_cons_of_mem _ (List.mem_append_left _ (List.mem_of_getElem? (i := 0) rfl)))) dX11_isGrip_3 ?_
  refine lv_topl (fun z_9 e_9 => ?_)
  obtain rfl : (10 : Int32).toInt64 = z_9 := (e_9.trans (by decide)).symm
  have hPc := hP.sub (ws' := []) [] rfl
  have hDc := hD.sub (ws' := []) [] (by decide) rfl
  have hKc := hK.sub (tys' := []) [] rfl
  have hFc : ∀ q : Nat, s.heap.size ≤ q → A q := fun q h => hA q (Nat.le_trans hS.1 h)
  refine va_calli (va_runS (As := [.long p0.toInt64, .long ((0 : Int32).toInt64), .long ((10 : Int32).toInt64)]) (rest := []) ⟨hx, hb, hml, hown, hts⟩ (c_X11_isIn l dC dI e0 p0 0 10 s.heap.size) (cwS 3 hts (goodIn_sub (fun _ h9 => List.mem_cons_of_mem _ (List.mem_append_right _ (h9))) (by decide +kernel)) rfl rfl rfl (by decide +kernel) ⟨(Nat.le_of_ble_eq_true rfl), (Nat.le_of_ble_eq_true rfl)⟩) ⟨fz_blind, fz_pre hPc hKc hDc hAm hS hFc⟩ rfl rfl hl.1 rfl (lv_room (Nat.le_of_ble_eq_true rfl)) dX11_isGrip_6 ⟨(Nat.le_of_ble_eq_true rfl), (Nat.le_of_ble_eq_true rfl)⟩) hS (fun q _ h => hFc q h) hFc (fun r u t H1 locs ht hvm hw hB hz1 hk1 hS => ?_)
  rcases hw with ⟨rfl, hp_1⟩ | ⟨rfl, hp_2⟩
  · have hP := fz_keep hP hk1
    generalize H1 = H at hP hS ⊢
    have hP : va_P (dC, dI) vwCl [(g0, .inr (16, [.ref mj, .ref mq, .ref mm, .ref ms, .ref mf, .ref ml, .int th, .int 0, .int 1, .int 0, .int (-1), .int 0, .int 0, .int 0, .int 0, .int 0, .long 0]))] H := hP
    refine W.widen (k := 0) (n := 0) (Nat.le_of_ble_eq_true rfl) (Nat.le_of_ble_eq_true rfl) ?_
    refine W.widen (k := 0) (n := 0) (Nat.le_of_ble_eq_true rfl) (Nat.le_of_ble_eq_true rfl) ?_
    exact W.zret (v := 1) hx hb hr rfl (fun t ht hW => ⟨⟨1, (), rfl, Or.inl (⟨rfl, hp_1⟩), trivial⟩, hS.F ht⟩) hS.2.2 dX11_isGrip_9
  · have hP := fz_keep hP hk1
    generalize H1 = H at hP hS ⊢
    have hP : va_P (dC, dI) vwCl [(g0, .inr (16, [.ref mj, .ref mq, .ref mm, .ref ms, .ref mf, .ref ml, .int th, .int 0, .int 1, .int 0, .int (-1), .int 0, .int 0, .int 0, .int 0, .int 0, .long 0]))] H := hP
    refine W.widen (k := 0) (n := 0) (Nat.le_of_ble_eq_true rfl) (Nat.le_of_ble_eq_true rfl) ?_
    refine W.widen (k := 0) (n := 0) (Nat.le_of_ble_eq_true rfl) (Nat.le_of_ble_eq_true rfl) ?_
    exact W.zret (v := 0) hx hb hr rfl (fun t ht hW => ⟨⟨0, (), rfl, Or.inr (⟨rfl, hp_2⟩), trivial⟩, hS.F ht⟩) hS.2.2 dX11_isGrip_9
def v_c_X11_isJoint : List Cond := .code yX11_isJoint cX11_isJoint 6 (some .boolean) :: ([.constantLong RX11 73 20] ++ (wsS RX11 57 yX11_isIn v_c_X11_isIn))
set_option maxRecDepth 20000 in
theorem i_c_X11_isJoint : ∀ w ∈ v_c_X11_isJoint, w ∈ lw_tbl := List.forall_mem_cons.mpr ⟨List.mem_of_getElem? (i := 1386) (by decide +kernel), List.forall_mem_append.mpr ⟨List.forall_mem_cons.mpr ⟨List.mem_of_getElem? (i := 1387) (by decide +kernel), fun _ h => absurd h List.not_mem_nil⟩, (by unfold wsS; exact List.forall_mem_append.mpr ⟨List.forall_mem_cons.mpr ⟨List.mem_of_getElem? (i := 1388) (by decide +kernel), List.forall_mem_cons.mpr ⟨List.mem_of_getElem? (i := 1389) (by decide +kernel), List.forall_mem_cons.mpr ⟨List.mem_of_getElem? (i := 54) (by decide +kernel), fun _ h => absurd h List.not_mem_nil⟩⟩⟩, i_c_X11_isIn⟩)⟩⟩
theorem q_c_X11_isJoint_0 {p0 p1 p2 p3 : Int32} (c_1 : ¬ p0 = p2) (hp_2 : fz_in p0 0 20) (hp_4 : fz_in p1 0 20) (hp_6 : fz_in p2 0 20) (hp_8 : fz_in p3 0 20) : fz_v p0 p1 p2 p3 := by
  first | assumption | (simp_all [fz_in, fz_v]; done) | (simp only [fz_in, fz_v] at *; grind)
theorem q_c_X11_isJoint_1 {p0 p1 p2 p3 : Int32} (c_1 : ¬ p0 = p2) (hp_2 : fz_in p0 0 20) (hp_4 : fz_in p1 0 20) (hp_6 : fz_in p2 0 20) (hp_9 : ¬ fz_in p3 0 20) : ¬ fz_v p0 p1 p2 p3 := by
  first | assumption | (simp_all [fz_in, fz_v]; done) | (simp only [fz_in, fz_v] at *; grind)
theorem q_c_X11_isJoint_2 {p0 p1 p2 p3 : Int32} (c_1 : ¬ p0 = p2) (hp_2 : fz_in p0 0 20) (hp_4 : fz_in p1 0 20) (hp_7 : ¬ fz_in p2 0 20) (hp_10 : fz_in p3 0 20) : ¬ fz_v p0 p1 p2 p3 := by
  first | assumption | (simp_all [fz_in, fz_v]; done) | (simp only [fz_in, fz_v] at *; grind)
theorem q_c_X11_isJoint_3 {p0 p1 p2 p3 : Int32} (c_1 : ¬ p0 = p2) (hp_2 : fz_in p0 0 20) (hp_4 : fz_in p1 0 20) (hp_7 : ¬ fz_in p2 0 20) (hp_11 : ¬ fz_in p3 0 20) : ¬ fz_v p0 p1 p2 p3 := by
  first | assumption | (simp_all [fz_in, fz_v]; done) | (simp only [fz_in, fz_v] at *; grind)
theorem q_c_X11_isJoint_4 {p0 p1 p2 p3 : Int32} (c_1 : ¬ p0 = p2) (hp_2 : fz_in p0 0 20) (hp_5 : ¬ fz_in p1 0 20) (hp_12 : fz_in p2 0 20) (hp_14 : fz_in p3 0 20) : ¬ fz_v p0 p1 p2 p3 := by
  first | assumption | (simp_all [fz_in, fz_v]; done) | (simp only [fz_in, fz_v] at *; grind)
theorem q_c_X11_isJoint_5 {p0 p1 p2 p3 : Int32} (c_1 : ¬ p0 = p2) (hp_2 : fz_in p0 0 20) (hp_5 : ¬ fz_in p1 0 20) (hp_12 : fz_in p2 0 20) (hp_15 : ¬ fz_in p3 0 20) : ¬ fz_v p0 p1 p2 p3 := by
  first | assumption | (simp_all [fz_in, fz_v]; done) | (simp only [fz_in, fz_v] at *; grind)
theorem q_c_X11_isJoint_6 {p0 p1 p2 p3 : Int32} (c_1 : ¬ p0 = p2) (hp_2 : fz_in p0 0 20) (hp_5 : ¬ fz_in p1 0 20) (hp_13 : ¬ fz_in p2 0 20) (hp_16 : fz_in p3 0 20) : ¬ fz_v p0 p1 p2 p3 := by
  first | assumption | (simp_all [fz_in, fz_v]; done) | (simp only [fz_in, fz_v] at *; grind)
theorem q_c_X11_isJoint_7 {p0 p1 p2 p3 : Int32} (c_1 : ¬ p0 = p2) (hp_2 : fz_in p0 0 20) (hp_5 : ¬ fz_in p1 0 20) (hp_13 : ¬ fz_in p2 0 20) (hp_17 : ¬ fz_in p3 0 20) : ¬ fz_v p0 p1 p2 p3 := by
  first | assumption | (simp_all [fz_in, fz_v]; done) | (simp only [fz_in, fz_v] at *; grind)
theorem q_c_X11_isJoint_8 {p0 p1 p2 p3 : Int32} (c_1 : ¬ p0 = p2) (hp_3 : ¬ fz_in p0 0 20) (hp_18 : fz_in p1 0 20) (hp_20 : fz_in p2 0 20) (hp_22 : fz_in p3 0 20) : ¬ fz_v p0 p1 p2 p3 := by
  first | assumption | (simp_all [fz_in, fz_v]; done) | (simp only [fz_in, fz_v] at *; grind)
theorem q_c_X11_isJoint_9 {p0 p1 p2 p3 : Int32} (c_1 : ¬ p0 = p2) (hp_3 : ¬ fz_in p0 0 20) (hp_18 : fz_in p1 0 20) (hp_20 : fz_in p2 0 20) (hp_23 : ¬ fz_in p3 0 20) : ¬ fz_v p0 p1 p2 p3 := by
  first | assumption | (simp_all [fz_in, fz_v]; done) | (simp only [fz_in, fz_v] at *; grind)
theorem q_c_X11_isJoint_10 {p0 p1 p2 p3 : Int32} (c_1 : ¬ p0 = p2) (hp_3 : ¬ fz_in p0 0 20) (hp_18 : fz_in p1 0 20) (hp_21 : ¬ fz_in p2 0 20) (hp_24 : fz_in p3 0 20) : ¬ fz_v p0 p1 p2 p3 := by
  first | assumption | (simp_all [fz_in, fz_v]; done) | (simp only [fz_in, fz_v] at *; grind)
theorem q_c_X11_isJoint_11 {p0 p1 p2 p3 : Int32} (c_1 : ¬ p0 = p2) (hp_3 : ¬ fz_in p0 0 20) (hp_18 : fz_in p1 0 20) (hp_21 : ¬ fz_in p2 0 20) (hp_25 : ¬ fz_in p3 0 20) : ¬ fz_v p0 p1 p2 p3 := by
  first | assumption | (simp_all [fz_in, fz_v]; done) | (simp only [fz_in, fz_v] at *; grind)
theorem q_c_X11_isJoint_12 {p0 p1 p2 p3 : Int32} (c_1 : ¬ p0 = p2) (hp_3 : ¬ fz_in p0 0 20) (hp_19 : ¬ fz_in p1 0 20) (hp_26 : fz_in p2 0 20) (hp_28 : fz_in p3 0 20) : ¬ fz_v p0 p1 p2 p3 := by
  first | assumption | (simp_all [fz_in, fz_v]; done) | (simp only [fz_in, fz_v] at *; grind)
theorem q_c_X11_isJoint_13 {p0 p1 p2 p3 : Int32} (c_1 : ¬ p0 = p2) (hp_3 : ¬ fz_in p0 0 20) (hp_19 : ¬ fz_in p1 0 20) (hp_26 : fz_in p2 0 20) (hp_29 : ¬ fz_in p3 0 20) : ¬ fz_v p0 p1 p2 p3 := by
  first | assumption | (simp_all [fz_in, fz_v]; done) | (simp only [fz_in, fz_v] at *; grind)
theorem q_c_X11_isJoint_14 {p0 p1 p2 p3 : Int32} (c_1 : ¬ p0 = p2) (hp_3 : ¬ fz_in p0 0 20) (hp_19 : ¬ fz_in p1 0 20) (hp_27 : ¬ fz_in p2 0 20) (hp_30 : fz_in p3 0 20) : ¬ fz_v p0 p1 p2 p3 := by
  first | assumption | (simp_all [fz_in, fz_v]; done) | (simp only [fz_in, fz_v] at *; grind)
theorem q_c_X11_isJoint_15 {p0 p1 p2 p3 : Int32} (c_1 : ¬ p0 = p2) (hp_3 : ¬ fz_in p0 0 20) (hp_19 : ¬ fz_in p1 0 20) (hp_27 : ¬ fz_in p2 0 20) (hp_31 : ¬ fz_in p3 0 20) : ¬ fz_v p0 p1 p2 p3 := by
  first | assumption | (simp_all [fz_in, fz_v]; done) | (simp only [fz_in, fz_v] at *; grind)
theorem q_c_X11_isJoint_16 {p0 p1 p2 p3 : Int32} (c_1 : p0 = p2) (c_32 : p1 = p3) (hp_33 : fz_in p0 0 20) (hp_35 : fz_in p1 0 20) (hp_37 : fz_in p2 0 20) (hp_39 : fz_in p3 0 20) : ¬ fz_v p0 p1 p2 p3 := by
  first | assumption | (simp_all [fz_in, fz_v]; done) | (simp only [fz_in, fz_v] at *; grind)
theorem q_c_X11_isJoint_17 {p0 p1 p2 p3 : Int32} (c_1 : p0 = p2) (c_32 : p1 = p3) (hp_33 : fz_in p0 0 20) (hp_35 : fz_in p1 0 20) (hp_37 : fz_in p2 0 20) (hp_40 : ¬ fz_in p3 0 20) : ¬ fz_v p0 p1 p2 p3 := by
  first | assumption | (simp_all [fz_in, fz_v]; done) | (simp only [fz_in, fz_v] at *; grind)
theorem q_c_X11_isJoint_18 {p0 p1 p2 p3 : Int32} (c_1 : p0 = p2) (c_32 : p1 = p3) (hp_33 : fz_in p0 0 20) (hp_35 : fz_in p1 0 20) (hp_38 : ¬ fz_in p2 0 20) (hp_41 : fz_in p3 0 20) : ¬ fz_v p0 p1 p2 p3 := by
  first | assumption | (simp_all [fz_in, fz_v]; done) | (simp only [fz_in, fz_v] at *; grind)
theorem q_c_X11_isJoint_19 {p0 p1 p2 p3 : Int32} (c_1 : p0 = p2) (c_32 : p1 = p3) (hp_33 : fz_in p0 0 20) (hp_35 : fz_in p1 0 20) (hp_38 : ¬ fz_in p2 0 20) (hp_42 : ¬ fz_in p3 0 20) : ¬ fz_v p0 p1 p2 p3 := by
  first | assumption | (simp_all [fz_in, fz_v]; done) | (simp only [fz_in, fz_v] at *; grind)
theorem q_c_X11_isJoint_20 {p0 p1 p2 p3 : Int32} (c_1 : p0 = p2) (c_32 : p1 = p3) (hp_33 : fz_in p0 0 20) (hp_36 : ¬ fz_in p1 0 20) (hp_43 : fz_in p2 0 20) (hp_45 : fz_in p3 0 20) : ¬ fz_v p0 p1 p2 p3 := by
  first | assumption | (simp_all [fz_in, fz_v]; done) | (simp only [fz_in, fz_v] at *; grind)
theorem q_c_X11_isJoint_21 {p0 p1 p2 p3 : Int32} (c_1 : p0 = p2) (c_32 : p1 = p3) (hp_33 : fz_in p0 0 20) (hp_36 : ¬ fz_in p1 0 20) (hp_43 : fz_in p2 0 20) (hp_46 : ¬ fz_in p3 0 20) : ¬ fz_v p0 p1 p2 p3 := by
  first | assumption | (simp_all [fz_in, fz_v]; done) | (simp only [fz_in, fz_v] at *; grind)
theorem q_c_X11_isJoint_22 {p0 p1 p2 p3 : Int32} (c_1 : p0 = p2) (c_32 : p1 = p3) (hp_33 : fz_in p0 0 20) (hp_36 : ¬ fz_in p1 0 20) (hp_44 : ¬ fz_in p2 0 20) (hp_47 : fz_in p3 0 20) : ¬ fz_v p0 p1 p2 p3 := by
  first | assumption | (simp_all [fz_in, fz_v]; done) | (simp only [fz_in, fz_v] at *; grind)
theorem q_c_X11_isJoint_23 {p0 p1 p2 p3 : Int32} (c_1 : p0 = p2) (c_32 : p1 = p3) (hp_33 : fz_in p0 0 20) (hp_36 : ¬ fz_in p1 0 20) (hp_44 : ¬ fz_in p2 0 20) (hp_48 : ¬ fz_in p3 0 20) : ¬ fz_v p0 p1 p2 p3 := by
  first | assumption | (simp_all [fz_in, fz_v]; done) | (simp only [fz_in, fz_v] at *; grind)
theorem q_c_X11_isJoint_24 {p0 p1 p2 p3 : Int32} (c_1 : p0 = p2) (c_32 : p1 = p3) (hp_34 : ¬ fz_in p0 0 20) (hp_49 : fz_in p1 0 20) (hp_51 : fz_in p2 0 20) (hp_53 : fz_in p3 0 20) : ¬ fz_v p0 p1 p2 p3 := by
  first | assumption | (simp_all [fz_in, fz_v]; done) | (simp only [fz_in, fz_v] at *; grind)
theorem q_c_X11_isJoint_25 {p0 p1 p2 p3 : Int32} (c_1 : p0 = p2) (c_32 : p1 = p3) (hp_34 : ¬ fz_in p0 0 20) (hp_49 : fz_in p1 0 20) (hp_51 : fz_in p2 0 20) (hp_54 : ¬ fz_in p3 0 20) : ¬ fz_v p0 p1 p2 p3 := by
  first | assumption | (simp_all [fz_in, fz_v]; done) | (simp only [fz_in, fz_v] at *; grind)
theorem q_c_X11_isJoint_26 {p0 p1 p2 p3 : Int32} (c_1 : p0 = p2) (c_32 : p1 = p3) (hp_34 : ¬ fz_in p0 0 20) (hp_49 : fz_in p1 0 20) (hp_52 : ¬ fz_in p2 0 20) (hp_55 : fz_in p3 0 20) : ¬ fz_v p0 p1 p2 p3 := by
  first | assumption | (simp_all [fz_in, fz_v]; done) | (simp only [fz_in, fz_v] at *; grind)
theorem q_c_X11_isJoint_27 {p0 p1 p2 p3 : Int32} (c_1 : p0 = p2) (c_32 : p1 = p3) (hp_34 : ¬ fz_in p0 0 20) (hp_49 : fz_in p1 0 20) (hp_52 : ¬ fz_in p2 0 20) (hp_56 : ¬ fz_in p3 0 20) : ¬ fz_v p0 p1 p2 p3 := by
  first | assumption | (simp_all [fz_in, fz_v]; done) | (simp only [fz_in, fz_v] at *; grind)
theorem q_c_X11_isJoint_28 {p0 p1 p2 p3 : Int32} (c_1 : p0 = p2) (c_32 : p1 = p3) (hp_34 : ¬ fz_in p0 0 20) (hp_50 : ¬ fz_in p1 0 20) (hp_57 : fz_in p2 0 20) (hp_59 : fz_in p3 0 20) : ¬ fz_v p0 p1 p2 p3 := by
  first | assumption | (simp_all [fz_in, fz_v]; done) | (simp only [fz_in, fz_v] at *; grind)
theorem q_c_X11_isJoint_29 {p0 p1 p2 p3 : Int32} (c_1 : p0 = p2) (c_32 : p1 = p3) (hp_34 : ¬ fz_in p0 0 20) (hp_50 : ¬ fz_in p1 0 20) (hp_57 : fz_in p2 0 20) (hp_60 : ¬ fz_in p3 0 20) : ¬ fz_v p0 p1 p2 p3 := by
  first | assumption | (simp_all [fz_in, fz_v]; done) | (simp only [fz_in, fz_v] at *; grind)
theorem q_c_X11_isJoint_30 {p0 p1 p2 p3 : Int32} (c_1 : p0 = p2) (c_32 : p1 = p3) (hp_34 : ¬ fz_in p0 0 20) (hp_50 : ¬ fz_in p1 0 20) (hp_58 : ¬ fz_in p2 0 20) (hp_61 : fz_in p3 0 20) : ¬ fz_v p0 p1 p2 p3 := by
  first | assumption | (simp_all [fz_in, fz_v]; done) | (simp only [fz_in, fz_v] at *; grind)
theorem q_c_X11_isJoint_31 {p0 p1 p2 p3 : Int32} (c_1 : p0 = p2) (c_32 : p1 = p3) (hp_34 : ¬ fz_in p0 0 20) (hp_50 : ¬ fz_in p1 0 20) (hp_58 : ¬ fz_in p2 0 20) (hp_62 : ¬ fz_in p3 0 20) : ¬ fz_v p0 p1 p2 p3 := by
  first | assumption | (simp_all [fz_in, fz_v]; done) | (simp only [fz_in, fz_v] at *; grind)
theorem q_c_X11_isJoint_32 {p0 p1 p2 p3 : Int32} (c_1 : p0 = p2) (c_32 : ¬ p1 = p3) (hp_63 : fz_in p0 0 20) (hp_65 : fz_in p1 0 20) (hp_67 : fz_in p2 0 20) (hp_69 : fz_in p3 0 20) : fz_v p0 p1 p2 p3 := by
  first | assumption | (simp_all [fz_in, fz_v]; done) | (simp only [fz_in, fz_v] at *; grind)
theorem q_c_X11_isJoint_33 {p0 p1 p2 p3 : Int32} (c_1 : p0 = p2) (c_32 : ¬ p1 = p3) (hp_63 : fz_in p0 0 20) (hp_65 : fz_in p1 0 20) (hp_67 : fz_in p2 0 20) (hp_70 : ¬ fz_in p3 0 20) : ¬ fz_v p0 p1 p2 p3 := by
  first | assumption | (simp_all [fz_in, fz_v]; done) | (simp only [fz_in, fz_v] at *; grind)
theorem q_c_X11_isJoint_34 {p0 p1 p2 p3 : Int32} (c_1 : p0 = p2) (c_32 : ¬ p1 = p3) (hp_63 : fz_in p0 0 20) (hp_65 : fz_in p1 0 20) (hp_68 : ¬ fz_in p2 0 20) (hp_71 : fz_in p3 0 20) : ¬ fz_v p0 p1 p2 p3 := by
  first | assumption | (simp_all [fz_in, fz_v]; done) | (simp only [fz_in, fz_v] at *; grind)
theorem q_c_X11_isJoint_35 {p0 p1 p2 p3 : Int32} (c_1 : p0 = p2) (c_32 : ¬ p1 = p3) (hp_63 : fz_in p0 0 20) (hp_65 : fz_in p1 0 20) (hp_68 : ¬ fz_in p2 0 20) (hp_72 : ¬ fz_in p3 0 20) : ¬ fz_v p0 p1 p2 p3 := by
  first | assumption | (simp_all [fz_in, fz_v]; done) | (simp only [fz_in, fz_v] at *; grind)
theorem q_c_X11_isJoint_36 {p0 p1 p2 p3 : Int32} (c_1 : p0 = p2) (c_32 : ¬ p1 = p3) (hp_63 : fz_in p0 0 20) (hp_66 : ¬ fz_in p1 0 20) (hp_73 : fz_in p2 0 20) (hp_75 : fz_in p3 0 20) : ¬ fz_v p0 p1 p2 p3 := by
  first | assumption | (simp_all [fz_in, fz_v]; done) | (simp only [fz_in, fz_v] at *; grind)
theorem q_c_X11_isJoint_37 {p0 p1 p2 p3 : Int32} (c_1 : p0 = p2) (c_32 : ¬ p1 = p3) (hp_63 : fz_in p0 0 20) (hp_66 : ¬ fz_in p1 0 20) (hp_73 : fz_in p2 0 20) (hp_76 : ¬ fz_in p3 0 20) : ¬ fz_v p0 p1 p2 p3 := by
  first | assumption | (simp_all [fz_in, fz_v]; done) | (simp only [fz_in, fz_v] at *; grind)
theorem q_c_X11_isJoint_38 {p0 p1 p2 p3 : Int32} (c_1 : p0 = p2) (c_32 : ¬ p1 = p3) (hp_63 : fz_in p0 0 20) (hp_66 : ¬ fz_in p1 0 20) (hp_74 : ¬ fz_in p2 0 20) (hp_77 : fz_in p3 0 20) : ¬ fz_v p0 p1 p2 p3 := by
  first | assumption | (simp_all [fz_in, fz_v]; done) | (simp only [fz_in, fz_v] at *; grind)
theorem q_c_X11_isJoint_39 {p0 p1 p2 p3 : Int32} (c_1 : p0 = p2) (c_32 : ¬ p1 = p3) (hp_63 : fz_in p0 0 20) (hp_66 : ¬ fz_in p1 0 20) (hp_74 : ¬ fz_in p2 0 20) (hp_78 : ¬ fz_in p3 0 20) : ¬ fz_v p0 p1 p2 p3 := by
  first | assumption | (simp_all [fz_in, fz_v]; done) | (simp only [fz_in, fz_v] at *; grind)
theorem q_c_X11_isJoint_40 {p0 p1 p2 p3 : Int32} (c_1 : p0 = p2) (c_32 : ¬ p1 = p3) (hp_64 : ¬ fz_in p0 0 20) (hp_79 : fz_in p1 0 20) (hp_81 : fz_in p2 0 20) (hp_83 : fz_in p3 0 20) : ¬ fz_v p0 p1 p2 p3 := by
  first | assumption | (simp_all [fz_in, fz_v]; done) | (simp only [fz_in, fz_v] at *; grind)
theorem q_c_X11_isJoint_41 {p0 p1 p2 p3 : Int32} (c_1 : p0 = p2) (c_32 : ¬ p1 = p3) (hp_64 : ¬ fz_in p0 0 20) (hp_79 : fz_in p1 0 20) (hp_81 : fz_in p2 0 20) (hp_84 : ¬ fz_in p3 0 20) : ¬ fz_v p0 p1 p2 p3 := by
  first | assumption | (simp_all [fz_in, fz_v]; done) | (simp only [fz_in, fz_v] at *; grind)
theorem q_c_X11_isJoint_42 {p0 p1 p2 p3 : Int32} (c_1 : p0 = p2) (c_32 : ¬ p1 = p3) (hp_64 : ¬ fz_in p0 0 20) (hp_79 : fz_in p1 0 20) (hp_82 : ¬ fz_in p2 0 20) (hp_85 : fz_in p3 0 20) : ¬ fz_v p0 p1 p2 p3 := by
  first | assumption | (simp_all [fz_in, fz_v]; done) | (simp only [fz_in, fz_v] at *; grind)
theorem q_c_X11_isJoint_43 {p0 p1 p2 p3 : Int32} (c_1 : p0 = p2) (c_32 : ¬ p1 = p3) (hp_64 : ¬ fz_in p0 0 20) (hp_79 : fz_in p1 0 20) (hp_82 : ¬ fz_in p2 0 20) (hp_86 : ¬ fz_in p3 0 20) : ¬ fz_v p0 p1 p2 p3 := by
  first | assumption | (simp_all [fz_in, fz_v]; done) | (simp only [fz_in, fz_v] at *; grind)
theorem q_c_X11_isJoint_44 {p0 p1 p2 p3 : Int32} (c_1 : p0 = p2) (c_32 : ¬ p1 = p3) (hp_64 : ¬ fz_in p0 0 20) (hp_80 : ¬ fz_in p1 0 20) (hp_87 : fz_in p2 0 20) (hp_89 : fz_in p3 0 20) : ¬ fz_v p0 p1 p2 p3 := by
  first | assumption | (simp_all [fz_in, fz_v]; done) | (simp only [fz_in, fz_v] at *; grind)
theorem q_c_X11_isJoint_45 {p0 p1 p2 p3 : Int32} (c_1 : p0 = p2) (c_32 : ¬ p1 = p3) (hp_64 : ¬ fz_in p0 0 20) (hp_80 : ¬ fz_in p1 0 20) (hp_87 : fz_in p2 0 20) (hp_90 : ¬ fz_in p3 0 20) : ¬ fz_v p0 p1 p2 p3 := by
  first | assumption | (simp_all [fz_in, fz_v]; done) | (simp only [fz_in, fz_v] at *; grind)
theorem q_c_X11_isJoint_46 {p0 p1 p2 p3 : Int32} (c_1 : p0 = p2) (c_32 : ¬ p1 = p3) (hp_64 : ¬ fz_in p0 0 20) (hp_80 : ¬ fz_in p1 0 20) (hp_88 : ¬ fz_in p2 0 20) (hp_91 : fz_in p3 0 20) : ¬ fz_v p0 p1 p2 p3 := by
  first | assumption | (simp_all [fz_in, fz_v]; done) | (simp only [fz_in, fz_v] at *; grind)
theorem q_c_X11_isJoint_47 {p0 p1 p2 p3 : Int32} (c_1 : p0 = p2) (c_32 : ¬ p1 = p3) (hp_64 : ¬ fz_in p0 0 20) (hp_80 : ¬ fz_in p1 0 20) (hp_88 : ¬ fz_in p2 0 20) (hp_92 : ¬ fz_in p3 0 20) : ¬ fz_v p0 p1 p2 p3 := by
  first | assumption | (simp_all [fz_in, fz_v]; done) | (simp only [fz_in, fz_v] at *; grind)
set_option maxHeartbeats 4000000 in
set_option maxRecDepth 100000 in
theorem c_X11_isJoint (l : Launch) (dC : Nat → ClassId) (dI : Nat → Nat → Nat) (e0 : Nat) (h0 : Nat) (cI : ClassId) (p0 p1 p2 p3 : Int32) (sz : Nat) : Met l yX11_isJoint v_c_X11_isJoint ({ frames := 1, cells := 0, slots := 0, locals := 25 }) (fz_P (dC, dI) e0 [(h0, .inl (cI, 4, .inl (upd (upd (upd (upd (fun _ => 0) (0 : Int32).toNatClampNeg p0) (1 : Int32).toNatClampNeg p1) (2 : Int32).toNatClampNeg p2) (3 : Int32).toNatClampNeg p3)))] [(cI, .int)] sz (fun q : Nat => sz ≤ q) [.ref h0]) (va_Qi (fun (r : Int32) (u : Unit) => (r = 1 ∧ fz_v p0 p1 p2 p3) ∨ (r = 0 ∧ ¬ fz_v p0 p1 p2 p3)) (fun (u : Unit) (t : State) => True) (fun q : Nat => sz ≤ q)) 0 0 (fun q : Nat => sz ≤ q) := by
  refine Met.ofW (cc := cX11_isJoint) (maxL := 6) (ret := (some .boolean)) (by decide) rfl ?_
  intro p e s m args below meth c s₁ B hml hv
  obtain ⟨rfl, hsz, hP, hK, hD0, hAm⟩ := hv
  have hx := B.exec
  have hb := B.bytes
  have hr := B.returns
  have hts := atoms_spec (ws := v_c_X11_isJoint) B.pre
  have hown : s.vm.findClass RX11 = some m.cls := findClass_of_methodNamed B.named
  have hlocks := B.notSynchronized
  subst hsz
  have hD := hD0
  generalize hAe : (fun q : Nat => s.heap.size ≤ q) = A at hAm ⊢
  have hA : ∀ q : Nat, s.heap.size ≤ q → A q := fun q h => by rw [← hAe]; exact h
  have hS : va_S A s.heap s.heap [] := va_S.rf
  have hP : va_P (dC, dI) vwCl [(h0, .inl (cI, 4, .inl (upd (upd (upd (upd (fun _ => 0) (0 : Int32).toNatClampNeg p0) (1 : Int32).toNatClampNeg p1) (2 : Int32).toNatClampNeg p2) (3 : Int32).toNatClampNeg p3)))] s.heap := hP
  have hl := lv_entry ([.ref h0]) (n := 6) (Nat.le_of_ble_eq_true rfl)
  rw [lg_entry_eq]
  generalize (lg_sl ([.ref h0]) ++ List.replicate (6 - (lg_sl ([.ref h0])).length) Slot.unset).toArray = ls at hl ⊢
  have hl : lv_has ls 6 [(0, .ref h0)] := hl
  refine lv_aload_n hx hb dX11_isJoint_0 rfl (lv_at hl 0 rfl) ?_
  refine lv_iconst (v := 0) hx hb dX11_isJoint_1 (by decide) ?_
  refine va_iald hx hb hK hP 0 0 rfl rfl (fz_il (by decide)) dX11_isJoint_2 ?_
  refine lv_topi (fun z_9 e_9 => ?_)
  obtain rfl : p0 = z_9 := (e_9.trans (by first | rfl | simp [upd])).symm
  refine lv_aload_n hx hb dX11_isJoint_3 rfl (lv_at hl 0 rfl) ?_
  refine lv_iconst (v := 2) hx hb dX11_isJoint_4 (by decide) ?_
  refine va_iald hx hb hK hP 0 0 rfl rfl (fz_il (by decide)) dX11_isJoint_5 ?_
  refine lv_topi (fun z_9 e_9 => ?_)
  obtain rfl : p2 = z_9 := (e_9.trans (by first | rfl | simp [upd])).symm
  refine lv_icmp_ne (tgt := 18) hx hb dX11_isJoint_6 (by decide) (fun c_1 => ?_) (fun c_1 => ?_)
  · refine lv_iconst (v := 1) hx hb dX11_isJoint_18 (by decide) ?_
    refine lv_goto (tgt := 23) hx hb dX11_isJoint_19 (by decide) ?_
    refine lv_istore_n (lv' := [(1, .int 1), (0, .ref h0)]) hx hb dX11_isJoint_23 rfl hl (by decide) rfl (fun ls hl => ?_)
    refine lv_aload_n hx hb dX11_isJoint_24 rfl (lv_at hl 1 rfl) ?_
    refine lv_astore_n (lv' := [(2, .ref h0), (1, .int 1), (0, .ref h0)]) hx hb dX11_isJoint_25 rfl hl (by decide) rfl (fun ls hl => ?_)
    refine lv_aload_n hx hb dX11_isJoint_26 rfl (lv_at hl 0 rfl) ?_
    refine va_alen hx hb hK hP 0 0 rfl rfl (v := 4) rfl dX11_isJoint_27 ?_
    refine lv_istore_n (lv' := [(3, .int 4), (2, .ref h0), (1, .int 1), (0, .ref h0)]) hx hb dX11_isJoint_28 rfl hl (by decide) rfl (fun ls hl => ?_)
    refine lv_iconst (v := 0) hx hb dX11_isJoint_29 (by decide) ?_
    refine lv_istore (lv' := [(4, .int 0), (3, .int 4), (2, .ref h0), (1, .int 1), (0, .ref h0)]) hx hb dX11_isJoint_30 hl (by decide) rfl (fun ls hl => ?_)
    refine lv_iload hx hb dX11_isJoint_32 (lv_at hl 0 rfl) ?_
    refine lv_iload_n hx hb dX11_isJoint_34 rfl (lv_at hl 1 rfl) ?_
    refine lv_icmp_ge (tgt := 63) hx hb dX11_isJoint_35 (by decide) (fun c_9 => absurd c_9 (by decide)) (fun _ => ?_)
    refine lv_aload_n hx hb dX11_isJoint_38 rfl (lv_at hl 2 rfl) ?_
    refine lv_iload hx hb dX11_isJoint_39 (lv_at hl 0 rfl) ?_
    refine va_iald hx hb hK hP 0 0 rfl rfl (fz_il (by decide)) dX11_isJoint_41 ?_
    refine lv_topi (fun z_9 e_9 => ?_)
    obtain rfl : p0 = z_9 := (e_9.trans (by first | rfl | simp [upd])).symm
    refine lv_istore (lv' := [(5, .int p0), (4, .int 0), (3, .int 4), (2, .ref h0), (1, .int 1), (0, .ref h0)]) hx hb dX11_isJoint_42 hl (by decide) rfl (fun ls hl => ?_)
    refine lv_iload_n hx hb dX11_isJoint_44 rfl (lv_at hl 4 rfl) ?_
    refine lv_iload hx hb dX11_isJoint_45 (lv_at hl 0 rfl) ?_
    refine lv_i2l (v := p0.toInt64) hx hb dX11_isJoint_47 rfl ?_
    refine lv_lconst (v := (0 : Int32).toInt64) hx hb dX11_isJoint_48 (by decide) ?_
    refine lv_ldc2 (v := 20) hx hb hown (hts _ (List.mem_cons_of_mem _ (List.mem_append_left _ (List.mem_of_getElem? (i := 0) rfl)))) dX11_isJoint_49 ?_
    refine lv_topl (fun z_9 e_9 => ?_)
    obtain rfl : (20 : Int32).toInt64 = z_9 := (e_9.trans (by decide)).symm
    have hPc := hP.sub (ws' := []) [] rfl
    have hDc := hD.sub (ws' := []) [] (by decide) rfl
    have hKc := hK.sub (tys' := []) [] rfl
    have hFc : ∀ q : Nat, s.heap.size ≤ q → A q := fun q h => hA q (Nat.le_trans hS.1 h)
    refine va_calli (va_runS (As := [.long p0.toInt64, .long ((0 : Int32).toInt64), .long ((20 : Int32).toInt64)]) (rest := [.int 1]) ⟨hx, hb, hml, hown, hts⟩ (c_X11_isIn l dC dI e0 p0 0 20 s.heap.size) (cwS 3 hts (goodIn_sub (fun _ h9 => List.mem_cons_of_mem _ (List.mem_append_right _ (h9))) (by decide +kernel)) rfl rfl rfl (by decide +kernel) ⟨(Nat.le_of_ble_eq_true rfl), (Nat.le_of_ble_eq_true rfl)⟩) ⟨fz_blind, fz_pre hPc hKc hDc hAm hS hFc⟩ rfl rfl hl.1 rfl (lv_room (Nat.le_of_ble_eq_true rfl)) dX11_isJoint_52 ⟨(Nat.le_of_ble_eq_true rfl), (Nat.le_of_ble_eq_true rfl)⟩) hS (fun q _ h => hFc q h) hFc (fun r u t H1 locs ht hvm hw hB hz1 hk1 hS => ?_)
    rcases hw with ⟨rfl, hp_2⟩ | ⟨rfl, hp_3⟩
    · have hP := fz_keep hP hk1
      generalize H1 = H at hP hS ⊢
      have hP : va_P (dC, dI) vwCl [(h0, .inl (cI, 4, .inl (upd (upd (upd (upd (fun _ => 0) (0 : Int32).toNatClampNeg p0) (1 : Int32).toNatClampNeg p1) (2 : Int32).toNatClampNeg p2) (3 : Int32).toNatClampNeg p3)))] H := hP
      refine W.widen (k := 0) (n := 0) (Nat.le_of_ble_eq_true rfl) (Nat.le_of_ble_eq_true rfl) ?_
      refine lv_iand hx hb dX11_isJoint_55 ?_
      refine lv_topi (fun z_9 e_9 => ?_)
      obtain rfl : 1 = z_9 := (e_9.trans (by decide)).symm
      refine lv_istore_n (lv' := [(1, .int 1), (5, .int p0), (4, .int 0), (3, .int 4), (2, .ref h0), (0, .ref h0)]) hx hb dX11_isJoint_56 rfl hl (by decide) rfl (fun ls hl => ?_)
      refine lv_iinc (v := 1) (lv' := [(4, .int 1), (1, .int 1), (5, .int p0), (3, .int 4), (2, .ref h0), (0, .ref h0)]) hx hb dX11_isJoint_57 hl (k := 2) rfl (by decide) (by decide) rfl (fun ls hl => ?_)
      refine lv_goto (tgt := 32) hx hb dX11_isJoint_60 (by decide) ?_
      refine lv_iload hx hb dX11_isJoint_32 (lv_at hl 0 rfl) ?_
      refine lv_iload_n hx hb dX11_isJoint_34 rfl (lv_at hl 3 rfl) ?_
      refine lv_icmp_ge (tgt := 63) hx hb dX11_isJoint_35 (by decide) (fun c_9 => absurd c_9 (by decide)) (fun _ => ?_)
      refine lv_aload_n hx hb dX11_isJoint_38 rfl (lv_at hl 4 rfl) ?_
      refine lv_iload hx hb dX11_isJoint_39 (lv_at hl 0 rfl) ?_
      refine va_iald hx hb hK hP 0 0 rfl rfl (fz_il (by decide)) dX11_isJoint_41 ?_
      refine lv_topi (fun z_9 e_9 => ?_)
      obtain rfl : p1 = z_9 := (e_9.trans (by first | rfl | simp [upd])).symm
      refine lv_istore (lv' := [(5, .int p1), (4, .int 1), (1, .int 1), (3, .int 4), (2, .ref h0), (0, .ref h0)]) hx hb dX11_isJoint_42 hl (by decide) rfl (fun ls hl => ?_)
      refine lv_iload_n hx hb dX11_isJoint_44 rfl (lv_at hl 2 rfl) ?_
      refine lv_iload hx hb dX11_isJoint_45 (lv_at hl 0 rfl) ?_
      refine lv_i2l (v := p1.toInt64) hx hb dX11_isJoint_47 rfl ?_
      refine lv_lconst (v := (0 : Int32).toInt64) hx hb dX11_isJoint_48 (by decide) ?_
      refine lv_ldc2 (v := 20) hx hb hown (hts _ (List.mem_cons_of_mem _ (List.mem_append_left _ (List.mem_of_getElem? (i := 0) rfl)))) dX11_isJoint_49 ?_
      refine lv_topl (fun z_9 e_9 => ?_)
      obtain rfl : (20 : Int32).toInt64 = z_9 := (e_9.trans (by decide)).symm
      have hPc := hP.sub (ws' := []) [] rfl
      have hDc := hD.sub (ws' := []) [] (by decide) rfl
      have hKc := hK.sub (tys' := []) [] rfl
      have hFc : ∀ q : Nat, H.size ≤ q → A q := fun q h => hA q (Nat.le_trans hS.1 h)
      refine va_calli (va_runS (As := [.long p1.toInt64, .long ((0 : Int32).toInt64), .long ((20 : Int32).toInt64)]) (rest := [.int 1]) ⟨hx, hb, hml, hown, hts⟩ (c_X11_isIn l dC dI e0 p1 0 20 H.size) (cwS 3 hts (goodIn_sub (fun _ h9 => List.mem_cons_of_mem _ (List.mem_append_right _ (h9))) (by decide +kernel)) rfl rfl rfl (by decide +kernel) ⟨(Nat.le_of_ble_eq_true rfl), (Nat.le_of_ble_eq_true rfl)⟩) ⟨fz_blind, fz_pre hPc hKc hDc hAm hS hFc⟩ rfl rfl hl.1 rfl (lv_room (Nat.le_of_ble_eq_true rfl)) dX11_isJoint_52 ⟨(Nat.le_of_ble_eq_true rfl), (Nat.le_of_ble_eq_true rfl)⟩) hS (fun q _ h => hFc q h) hFc (fun r u t H1 locs ht hvm hw hB hz1 hk1 hS => ?_)
      rcases hw with ⟨rfl, hp_4⟩ | ⟨rfl, hp_5⟩
      · have hP := fz_keep hP hk1
        generalize H1 = H at hP hS ⊢
        have hP : va_P (dC, dI) vwCl [(h0, .inl (cI, 4, .inl (upd (upd (upd (upd (fun _ => 0) (0 : Int32).toNatClampNeg p0) (1 : Int32).toNatClampNeg p1) (2 : Int32).toNatClampNeg p2) (3 : Int32).toNatClampNeg p3)))] H := hP
        refine W.widen (k := 0) (n := 0) (Nat.le_of_ble_eq_true rfl) (Nat.le_of_ble_eq_true rfl) ?_
        refine lv_iand hx hb dX11_isJoint_55 ?_
        refine lv_topi (fun z_9 e_9 => ?_)
        obtain rfl : 1 = z_9 := (e_9.trans (by decide)).symm
        refine lv_istore_n (lv' := [(1, .int 1), (5, .int p1), (4, .int 1), (3, .int 4), (2, .ref h0), (0, .ref h0)]) hx hb dX11_isJoint_56 rfl hl (by decide) rfl (fun ls hl => ?_)
        refine lv_iinc (v := 2) (lv' := [(4, .int 2), (1, .int 1), (5, .int p1), (3, .int 4), (2, .ref h0), (0, .ref h0)]) hx hb dX11_isJoint_57 hl (k := 2) rfl (by decide) (by decide) rfl (fun ls hl => ?_)
        refine lv_goto (tgt := 32) hx hb dX11_isJoint_60 (by decide) ?_
        refine lv_iload hx hb dX11_isJoint_32 (lv_at hl 0 rfl) ?_
        refine lv_iload_n hx hb dX11_isJoint_34 rfl (lv_at hl 3 rfl) ?_
        refine lv_icmp_ge (tgt := 63) hx hb dX11_isJoint_35 (by decide) (fun c_9 => absurd c_9 (by decide)) (fun _ => ?_)
        refine lv_aload_n hx hb dX11_isJoint_38 rfl (lv_at hl 4 rfl) ?_
        refine lv_iload hx hb dX11_isJoint_39 (lv_at hl 0 rfl) ?_
        refine va_iald hx hb hK hP 0 0 rfl rfl (fz_il (by decide)) dX11_isJoint_41 ?_
        refine lv_topi (fun z_9 e_9 => ?_)
        obtain rfl : p2 = z_9 := (e_9.trans (by first | rfl | simp [upd])).symm
        refine lv_istore (lv' := [(5, .int p2), (4, .int 2), (1, .int 1), (3, .int 4), (2, .ref h0), (0, .ref h0)]) hx hb dX11_isJoint_42 hl (by decide) rfl (fun ls hl => ?_)
        refine lv_iload_n hx hb dX11_isJoint_44 rfl (lv_at hl 2 rfl) ?_
        refine lv_iload hx hb dX11_isJoint_45 (lv_at hl 0 rfl) ?_
        refine lv_i2l (v := p2.toInt64) hx hb dX11_isJoint_47 rfl ?_
        refine lv_lconst (v := (0 : Int32).toInt64) hx hb dX11_isJoint_48 (by decide) ?_
        refine lv_ldc2 (v := 20) hx hb hown (hts _ (List.mem_cons_of_mem _ (List.mem_append_left _ (List.mem_of_getElem? (i := 0) rfl)))) dX11_isJoint_49 ?_
        refine lv_topl (fun z_9 e_9 => ?_)
        obtain rfl : (20 : Int32).toInt64 = z_9 := (e_9.trans (by decide)).symm
        have hPc := hP.sub (ws' := []) [] rfl
        have hDc := hD.sub (ws' := []) [] (by decide) rfl
        have hKc := hK.sub (tys' := []) [] rfl
        have hFc : ∀ q : Nat, H.size ≤ q → A q := fun q h => hA q (Nat.le_trans hS.1 h)
        refine va_calli (va_runS (As := [.long p2.toInt64, .long ((0 : Int32).toInt64), .long ((20 : Int32).toInt64)]) (rest := [.int 1]) ⟨hx, hb, hml, hown, hts⟩ (c_X11_isIn l dC dI e0 p2 0 20 H.size) (cwS 3 hts (goodIn_sub (fun _ h9 => List.mem_cons_of_mem _ (List.mem_append_right _ (h9))) (by decide +kernel)) rfl rfl rfl (by decide +kernel) ⟨(Nat.le_of_ble_eq_true rfl), (Nat.le_of_ble_eq_true rfl)⟩) ⟨fz_blind, fz_pre hPc hKc hDc hAm hS hFc⟩ rfl rfl hl.1 rfl (lv_room (Nat.le_of_ble_eq_true rfl)) dX11_isJoint_52 ⟨(Nat.le_of_ble_eq_true rfl), (Nat.le_of_ble_eq_true rfl)⟩) hS (fun q _ h => hFc q h) hFc (fun r u t H1 locs ht hvm hw hB hz1 hk1 hS => ?_)
        rcases hw with ⟨rfl, hp_6⟩ | ⟨rfl, hp_7⟩
        · have hP := fz_keep hP hk1
          generalize H1 = H at hP hS ⊢
          have hP : va_P (dC, dI) vwCl [(h0, .inl (cI, 4, .inl (upd (upd (upd (upd (fun _ => 0) (0 : Int32).toNatClampNeg p0) (1 : Int32).toNatClampNeg p1) (2 : Int32).toNatClampNeg p2) (3 : Int32).toNatClampNeg p3)))] H := hP
          refine W.widen (k := 0) (n := 0) (Nat.le_of_ble_eq_true rfl) (Nat.le_of_ble_eq_true rfl) ?_
          refine lv_iand hx hb dX11_isJoint_55 ?_
          refine lv_topi (fun z_9 e_9 => ?_)
          obtain rfl : 1 = z_9 := (e_9.trans (by decide)).symm
          refine lv_istore_n (lv' := [(1, .int 1), (5, .int p2), (4, .int 2), (3, .int 4), (2, .ref h0), (0, .ref h0)]) hx hb dX11_isJoint_56 rfl hl (by decide) rfl (fun ls hl => ?_)
          refine lv_iinc (v := 3) (lv' := [(4, .int 3), (1, .int 1), (5, .int p2), (3, .int 4), (2, .ref h0), (0, .ref h0)]) hx hb dX11_isJoint_57 hl (k := 2) rfl (by decide) (by decide) rfl (fun ls hl => ?_)
          refine lv_goto (tgt := 32) hx hb dX11_isJoint_60 (by decide) ?_
          refine lv_iload hx hb dX11_isJoint_32 (lv_at hl 0 rfl) ?_
          refine lv_iload_n hx hb dX11_isJoint_34 rfl (lv_at hl 3 rfl) ?_
          refine lv_icmp_ge (tgt := 63) hx hb dX11_isJoint_35 (by decide) (fun c_9 => absurd c_9 (by decide)) (fun _ => ?_)
          refine lv_aload_n hx hb dX11_isJoint_38 rfl (lv_at hl 4 rfl) ?_
          refine lv_iload hx hb dX11_isJoint_39 (lv_at hl 0 rfl) ?_
          refine va_iald hx hb hK hP 0 0 rfl rfl (fz_il (by decide)) dX11_isJoint_41 ?_
          refine lv_topi (fun z_9 e_9 => ?_)
          obtain rfl : p3 = z_9 := (e_9.trans (by first | rfl | simp [upd])).symm
          refine lv_istore (lv' := [(5, .int p3), (4, .int 3), (1, .int 1), (3, .int 4), (2, .ref h0), (0, .ref h0)]) hx hb dX11_isJoint_42 hl (by decide) rfl (fun ls hl => ?_)
          refine lv_iload_n hx hb dX11_isJoint_44 rfl (lv_at hl 2 rfl) ?_
          refine lv_iload hx hb dX11_isJoint_45 (lv_at hl 0 rfl) ?_
          refine lv_i2l (v := p3.toInt64) hx hb dX11_isJoint_47 rfl ?_
          refine lv_lconst (v := (0 : Int32).toInt64) hx hb dX11_isJoint_48 (by decide) ?_
          refine lv_ldc2 (v := 20) hx hb hown (hts _ (List.mem_cons_of_mem _ (List.mem_append_left _ (List.mem_of_getElem? (i := 0) rfl)))) dX11_isJoint_49 ?_
          refine lv_topl (fun z_9 e_9 => ?_)
          obtain rfl : (20 : Int32).toInt64 = z_9 := (e_9.trans (by decide)).symm
          have hPc := hP.sub (ws' := []) [] rfl
          have hDc := hD.sub (ws' := []) [] (by decide) rfl
          have hKc := hK.sub (tys' := []) [] rfl
          have hFc : ∀ q : Nat, H.size ≤ q → A q := fun q h => hA q (Nat.le_trans hS.1 h)
          refine va_calli (va_runS (As := [.long p3.toInt64, .long ((0 : Int32).toInt64), .long ((20 : Int32).toInt64)]) (rest := [.int 1]) ⟨hx, hb, hml, hown, hts⟩ (c_X11_isIn l dC dI e0 p3 0 20 H.size) (cwS 3 hts (goodIn_sub (fun _ h9 => List.mem_cons_of_mem _ (List.mem_append_right _ (h9))) (by decide +kernel)) rfl rfl rfl (by decide +kernel) ⟨(Nat.le_of_ble_eq_true rfl), (Nat.le_of_ble_eq_true rfl)⟩) ⟨fz_blind, fz_pre hPc hKc hDc hAm hS hFc⟩ rfl rfl hl.1 rfl (lv_room (Nat.le_of_ble_eq_true rfl)) dX11_isJoint_52 ⟨(Nat.le_of_ble_eq_true rfl), (Nat.le_of_ble_eq_true rfl)⟩) hS (fun q _ h => hFc q h) hFc (fun r u t H1 locs ht hvm hw hB hz1 hk1 hS => ?_)
          rcases hw with ⟨rfl, hp_8⟩ | ⟨rfl, hp_9⟩
          · have hP := fz_keep hP hk1
            generalize H1 = H at hP hS ⊢
            have hP : va_P (dC, dI) vwCl [(h0, .inl (cI, 4, .inl (upd (upd (upd (upd (fun _ => 0) (0 : Int32).toNatClampNeg p0) (1 : Int32).toNatClampNeg p1) (2 : Int32).toNatClampNeg p2) (3 : Int32).toNatClampNeg p3)))] H := hP
            refine W.widen (k := 0) (n := 0) (Nat.le_of_ble_eq_true rfl) (Nat.le_of_ble_eq_true rfl) ?_
            refine lv_iand hx hb dX11_isJoint_55 ?_
            refine lv_topi (fun z_9 e_9 => ?_)
            obtain rfl : 1 = z_9 := (e_9.trans (by decide)).symm
            refine lv_istore_n (lv' := [(1, .int 1), (5, .int p3), (4, .int 3), (3, .int 4), (2, .ref h0), (0, .ref h0)]) hx hb dX11_isJoint_56 rfl hl (by decide) rfl (fun ls hl => ?_)
            refine lv_iinc (v := 4) (lv' := [(4, .int 4), (1, .int 1), (5, .int p3), (3, .int 4), (2, .ref h0), (0, .ref h0)]) hx hb dX11_isJoint_57 hl (k := 2) rfl (by decide) (by decide) rfl (fun ls hl => ?_)
            refine lv_goto (tgt := 32) hx hb dX11_isJoint_60 (by decide) ?_
            refine lv_iload hx hb dX11_isJoint_32 (lv_at hl 0 rfl) ?_
            refine lv_iload_n hx hb dX11_isJoint_34 rfl (lv_at hl 3 rfl) ?_
            refine lv_icmp_ge (tgt := 63) hx hb dX11_isJoint_35 (by decide) (fun _ => ?_) (fun c_9 => absurd (by decide) c_9)
            refine lv_iload_n hx hb dX11_isJoint_63 rfl (lv_at hl 1 rfl) ?_
            refine W.widen (k := 0) (n := 0) (Nat.le_of_ble_eq_true rfl) (Nat.le_of_ble_eq_true rfl) ?_
            exact W.zret (v := 1) hx hb hr rfl (fun t ht hW => ⟨⟨1, (), rfl, Or.inl (⟨rfl, (q_c_X11_isJoint_0 c_1 hp_2 hp_4 hp_6 hp_8)⟩), trivial⟩, hS.F ht⟩) hS.2.2 dX11_isJoint_64
          · have hP := fz_keep hP hk1
            generalize H1 = H at hP hS ⊢
            have hP : va_P (dC, dI) vwCl [(h0, .inl (cI, 4, .inl (upd (upd (upd (upd (fun _ => 0) (0 : Int32).toNatClampNeg p0) (1 : Int32).toNatClampNeg p1) (2 : Int32).toNatClampNeg p2) (3 : Int32).toNatClampNeg p3)))] H := hP
            refine W.widen (k := 0) (n := 0) (Nat.le_of_ble_eq_true rfl) (Nat.le_of_ble_eq_true rfl) ?_
            refine lv_iand hx hb dX11_isJoint_55 ?_
            refine lv_topi (fun z_9 e_9 => ?_)
            obtain rfl : 0 = z_9 := (e_9.trans (by decide)).symm
            refine lv_istore_n (lv' := [(1, .int 0), (5, .int p3), (4, .int 3), (3, .int 4), (2, .ref h0), (0, .ref h0)]) hx hb dX11_isJoint_56 rfl hl (by decide) rfl (fun ls hl => ?_)
            refine lv_iinc (v := 4) (lv' := [(4, .int 4), (1, .int 0), (5, .int p3), (3, .int 4), (2, .ref h0), (0, .ref h0)]) hx hb dX11_isJoint_57 hl (k := 2) rfl (by decide) (by decide) rfl (fun ls hl => ?_)
            refine lv_goto (tgt := 32) hx hb dX11_isJoint_60 (by decide) ?_
            refine lv_iload hx hb dX11_isJoint_32 (lv_at hl 0 rfl) ?_
            refine lv_iload_n hx hb dX11_isJoint_34 rfl (lv_at hl 3 rfl) ?_
            refine lv_icmp_ge (tgt := 63) hx hb dX11_isJoint_35 (by decide) (fun _ => ?_) (fun c_9 => absurd (by decide) c_9)
            refine lv_iload_n hx hb dX11_isJoint_63 rfl (lv_at hl 1 rfl) ?_
            refine W.widen (k := 0) (n := 0) (Nat.le_of_ble_eq_true rfl) (Nat.le_of_ble_eq_true rfl) ?_
            exact W.zret (v := 0) hx hb hr rfl (fun t ht hW => ⟨⟨0, (), rfl, Or.inr (⟨rfl, (q_c_X11_isJoint_1 c_1 hp_2 hp_4 hp_6 hp_9)⟩), trivial⟩, hS.F ht⟩) hS.2.2 dX11_isJoint_64
        · have hP := fz_keep hP hk1
          generalize H1 = H at hP hS ⊢
          have hP : va_P (dC, dI) vwCl [(h0, .inl (cI, 4, .inl (upd (upd (upd (upd (fun _ => 0) (0 : Int32).toNatClampNeg p0) (1 : Int32).toNatClampNeg p1) (2 : Int32).toNatClampNeg p2) (3 : Int32).toNatClampNeg p3)))] H := hP
          refine W.widen (k := 0) (n := 0) (Nat.le_of_ble_eq_true rfl) (Nat.le_of_ble_eq_true rfl) ?_
          refine lv_iand hx hb dX11_isJoint_55 ?_
          refine lv_topi (fun z_9 e_9 => ?_)
          obtain rfl : 0 = z_9 := (e_9.trans (by decide)).symm
          refine lv_istore_n (lv' := [(1, .int 0), (5, .int p2), (4, .int 2), (3, .int 4), (2, .ref h0), (0, .ref h0)]) hx hb dX11_isJoint_56 rfl hl (by decide) rfl (fun ls hl => ?_)
          refine lv_iinc (v := 3) (lv' := [(4, .int 3), (1, .int 0), (5, .int p2), (3, .int 4), (2, .ref h0), (0, .ref h0)]) hx hb dX11_isJoint_57 hl (k := 2) rfl (by decide) (by decide) rfl (fun ls hl => ?_)
          refine lv_goto (tgt := 32) hx hb dX11_isJoint_60 (by decide) ?_
          refine lv_iload hx hb dX11_isJoint_32 (lv_at hl 0 rfl) ?_
          refine lv_iload_n hx hb dX11_isJoint_34 rfl (lv_at hl 3 rfl) ?_
          refine lv_icmp_ge (tgt := 63) hx hb dX11_isJoint_35 (by decide) (fun c_9 => absurd c_9 (by decide)) (fun _ => ?_)
          refine lv_aload_n hx hb dX11_isJoint_38 rfl (lv_at hl 4 rfl) ?_
          refine lv_iload hx hb dX11_isJoint_39 (lv_at hl 0 rfl) ?_
          refine va_iald hx hb hK hP 0 0 rfl rfl (fz_il (by decide)) dX11_isJoint_41 ?_
          refine lv_topi (fun z_9 e_9 => ?_)
          obtain rfl : p3 = z_9 := (e_9.trans (by first | rfl | simp [upd])).symm
          refine lv_istore (lv' := [(5, .int p3), (4, .int 3), (1, .int 0), (3, .int 4), (2, .ref h0), (0, .ref h0)]) hx hb dX11_isJoint_42 hl (by decide) rfl (fun ls hl => ?_)
          refine lv_iload_n hx hb dX11_isJoint_44 rfl (lv_at hl 2 rfl) ?_
          refine lv_iload hx hb dX11_isJoint_45 (lv_at hl 0 rfl) ?_
          refine lv_i2l (v := p3.toInt64) hx hb dX11_isJoint_47 rfl ?_
          refine lv_lconst (v := (0 : Int32).toInt64) hx hb dX11_isJoint_48 (by decide) ?_
          refine lv_ldc2 (v := 20) hx hb hown (hts _ (List.mem_cons_of_mem _ (List.mem_append_left _ (List.mem_of_getElem? (i := 0) rfl)))) dX11_isJoint_49 ?_
          refine lv_topl (fun z_9 e_9 => ?_)
          obtain rfl : (20 : Int32).toInt64 = z_9 := (e_9.trans (by decide)).symm
          have hPc := hP.sub (ws' := []) [] rfl
          have hDc := hD.sub (ws' := []) [] (by decide) rfl
          have hKc := hK.sub (tys' := []) [] rfl
          have hFc : ∀ q : Nat, H.size ≤ q → A q := fun q h => hA q (Nat.le_trans hS.1 h)
          refine va_calli (va_runS (As := [.long p3.toInt64, .long ((0 : Int32).toInt64), .long ((20 : Int32).toInt64)]) (rest := [.int 0]) ⟨hx, hb, hml, hown, hts⟩ (c_X11_isIn l dC dI e0 p3 0 20 H.size) (cwS 3 hts (goodIn_sub (fun _ h9 => List.mem_cons_of_mem _ (List.mem_append_right _ (h9))) (by decide +kernel)) rfl rfl rfl (by decide +kernel) ⟨(Nat.le_of_ble_eq_true rfl), (Nat.le_of_ble_eq_true rfl)⟩) ⟨fz_blind, fz_pre hPc hKc hDc hAm hS hFc⟩ rfl rfl hl.1 rfl (lv_room (Nat.le_of_ble_eq_true rfl)) dX11_isJoint_52 ⟨(Nat.le_of_ble_eq_true rfl), (Nat.le_of_ble_eq_true rfl)⟩) hS (fun q _ h => hFc q h) hFc (fun r u t H1 locs ht hvm hw hB hz1 hk1 hS => ?_)
          rcases hw with ⟨rfl, hp_10⟩ | ⟨rfl, hp_11⟩
          · have hP := fz_keep hP hk1
            generalize H1 = H at hP hS ⊢
            have hP : va_P (dC, dI) vwCl [(h0, .inl (cI, 4, .inl (upd (upd (upd (upd (fun _ => 0) (0 : Int32).toNatClampNeg p0) (1 : Int32).toNatClampNeg p1) (2 : Int32).toNatClampNeg p2) (3 : Int32).toNatClampNeg p3)))] H := hP
            refine W.widen (k := 0) (n := 0) (Nat.le_of_ble_eq_true rfl) (Nat.le_of_ble_eq_true rfl) ?_
            refine lv_iand hx hb dX11_isJoint_55 ?_
            refine lv_topi (fun z_9 e_9 => ?_)
            obtain rfl : 0 = z_9 := (e_9.trans (by decide)).symm
            refine lv_istore_n (lv' := [(1, .int 0), (5, .int p3), (4, .int 3), (3, .int 4), (2, .ref h0), (0, .ref h0)]) hx hb dX11_isJoint_56 rfl hl (by decide) rfl (fun ls hl => ?_)
            refine lv_iinc (v := 4) (lv' := [(4, .int 4), (1, .int 0), (5, .int p3), (3, .int 4), (2, .ref h0), (0, .ref h0)]) hx hb dX11_isJoint_57 hl (k := 2) rfl (by decide) (by decide) rfl (fun ls hl => ?_)
            refine lv_goto (tgt := 32) hx hb dX11_isJoint_60 (by decide) ?_
            refine lv_iload hx hb dX11_isJoint_32 (lv_at hl 0 rfl) ?_
            refine lv_iload_n hx hb dX11_isJoint_34 rfl (lv_at hl 3 rfl) ?_
            refine lv_icmp_ge (tgt := 63) hx hb dX11_isJoint_35 (by decide) (fun _ => ?_) (fun c_9 => absurd (by decide) c_9)
            refine lv_iload_n hx hb dX11_isJoint_63 rfl (lv_at hl 1 rfl) ?_
            refine W.widen (k := 0) (n := 0) (Nat.le_of_ble_eq_true rfl) (Nat.le_of_ble_eq_true rfl) ?_
            exact W.zret (v := 0) hx hb hr rfl (fun t ht hW => ⟨⟨0, (), rfl, Or.inr (⟨rfl, (q_c_X11_isJoint_2 c_1 hp_2 hp_4 hp_7 hp_10)⟩), trivial⟩, hS.F ht⟩) hS.2.2 dX11_isJoint_64
          · have hP := fz_keep hP hk1
            generalize H1 = H at hP hS ⊢
            have hP : va_P (dC, dI) vwCl [(h0, .inl (cI, 4, .inl (upd (upd (upd (upd (fun _ => 0) (0 : Int32).toNatClampNeg p0) (1 : Int32).toNatClampNeg p1) (2 : Int32).toNatClampNeg p2) (3 : Int32).toNatClampNeg p3)))] H := hP
            refine W.widen (k := 0) (n := 0) (Nat.le_of_ble_eq_true rfl) (Nat.le_of_ble_eq_true rfl) ?_
            refine lv_iand hx hb dX11_isJoint_55 ?_
            refine lv_topi (fun z_9 e_9 => ?_)
            obtain rfl : 0 = z_9 := (e_9.trans (by decide)).symm
            refine lv_istore_n (lv' := [(1, .int 0), (5, .int p3), (4, .int 3), (3, .int 4), (2, .ref h0), (0, .ref h0)]) hx hb dX11_isJoint_56 rfl hl (by decide) rfl (fun ls hl => ?_)
            refine lv_iinc (v := 4) (lv' := [(4, .int 4), (1, .int 0), (5, .int p3), (3, .int 4), (2, .ref h0), (0, .ref h0)]) hx hb dX11_isJoint_57 hl (k := 2) rfl (by decide) (by decide) rfl (fun ls hl => ?_)
            refine lv_goto (tgt := 32) hx hb dX11_isJoint_60 (by decide) ?_
            refine lv_iload hx hb dX11_isJoint_32 (lv_at hl 0 rfl) ?_
            refine lv_iload_n hx hb dX11_isJoint_34 rfl (lv_at hl 3 rfl) ?_
            refine lv_icmp_ge (tgt := 63) hx hb dX11_isJoint_35 (by decide) (fun _ => ?_) (fun c_9 => absurd (by decide) c_9)
            refine lv_iload_n hx hb dX11_isJoint_63 rfl (lv_at hl 1 rfl) ?_
            refine W.widen (k := 0) (n := 0) (Nat.le_of_ble_eq_true rfl) (Nat.le_of_ble_eq_true rfl) ?_
            exact W.zret (v := 0) hx hb hr rfl (fun t ht hW => ⟨⟨0, (), rfl, Or.inr (⟨rfl, (q_c_X11_isJoint_3 c_1 hp_2 hp_4 hp_7 hp_11)⟩), trivial⟩, hS.F ht⟩) hS.2.2 dX11_isJoint_64
      · have hP := fz_keep hP hk1
        generalize H1 = H at hP hS ⊢
        have hP : va_P (dC, dI) vwCl [(h0, .inl (cI, 4, .inl (upd (upd (upd (upd (fun _ => 0) (0 : Int32).toNatClampNeg p0) (1 : Int32).toNatClampNeg p1) (2 : Int32).toNatClampNeg p2) (3 : Int32).toNatClampNeg p3)))] H := hP
        refine W.widen (k := 0) (n := 0) (Nat.le_of_ble_eq_true rfl) (Nat.le_of_ble_eq_true rfl) ?_
        refine lv_iand hx hb dX11_isJoint_55 ?_
        refine lv_topi (fun z_9 e_9 => ?_)
        obtain rfl : 0 = z_9 := (e_9.trans (by decide)).symm
        refine lv_istore_n (lv' := [(1, .int 0), (5, .int p1), (4, .int 1), (3, .int 4), (2, .ref h0), (0, .ref h0)]) hx hb dX11_isJoint_56 rfl hl (by decide) rfl (fun ls hl => ?_)
        refine lv_iinc (v := 2) (lv' := [(4, .int 2), (1, .int 0), (5, .int p1), (3, .int 4), (2, .ref h0), (0, .ref h0)]) hx hb dX11_isJoint_57 hl (k := 2) rfl (by decide) (by decide) rfl (fun ls hl => ?_)
        refine lv_goto (tgt := 32) hx hb dX11_isJoint_60 (by decide) ?_
        refine lv_iload hx hb dX11_isJoint_32 (lv_at hl 0 rfl) ?_
        refine lv_iload_n hx hb dX11_isJoint_34 rfl (lv_at hl 3 rfl) ?_
        refine lv_icmp_ge (tgt := 63) hx hb dX11_isJoint_35 (by decide) (fun c_9 => absurd c_9 (by decide)) (fun _ => ?_)
        refine lv_aload_n hx hb dX11_isJoint_38 rfl (lv_at hl 4 rfl) ?_
        refine lv_iload hx hb dX11_isJoint_39 (lv_at hl 0 rfl) ?_
        refine va_iald hx hb hK hP 0 0 rfl rfl (fz_il (by decide)) dX11_isJoint_41 ?_
        refine lv_topi (fun z_9 e_9 => ?_)
        obtain rfl : p2 = z_9 := (e_9.trans (by first | rfl | simp [upd])).symm
        refine lv_istore (lv' := [(5, .int p2), (4, .int 2), (1, .int 0), (3, .int 4), (2, .ref h0), (0, .ref h0)]) hx hb dX11_isJoint_42 hl (by decide) rfl (fun ls hl => ?_)
        refine lv_iload_n hx hb dX11_isJoint_44 rfl (lv_at hl 2 rfl) ?_
        refine lv_iload hx hb dX11_isJoint_45 (lv_at hl 0 rfl) ?_
        refine lv_i2l (v := p2.toInt64) hx hb dX11_isJoint_47 rfl ?_
        refine lv_lconst (v := (0 : Int32).toInt64) hx hb dX11_isJoint_48 (by decide) ?_
        refine lv_ldc2 (v := 20) hx hb hown (hts _ (List.mem_cons_of_mem _ (List.mem_append_left _ (List.mem_of_getElem? (i := 0) rfl)))) dX11_isJoint_49 ?_
        refine lv_topl (fun z_9 e_9 => ?_)
        obtain rfl : (20 : Int32).toInt64 = z_9 := (e_9.trans (by decide)).symm
        have hPc := hP.sub (ws' := []) [] rfl
        have hDc := hD.sub (ws' := []) [] (by decide) rfl
        have hKc := hK.sub (tys' := []) [] rfl
        have hFc : ∀ q : Nat, H.size ≤ q → A q := fun q h => hA q (Nat.le_trans hS.1 h)
        refine va_calli (va_runS (As := [.long p2.toInt64, .long ((0 : Int32).toInt64), .long ((20 : Int32).toInt64)]) (rest := [.int 0]) ⟨hx, hb, hml, hown, hts⟩ (c_X11_isIn l dC dI e0 p2 0 20 H.size) (cwS 3 hts (goodIn_sub (fun _ h9 => List.mem_cons_of_mem _ (List.mem_append_right _ (h9))) (by decide +kernel)) rfl rfl rfl (by decide +kernel) ⟨(Nat.le_of_ble_eq_true rfl), (Nat.le_of_ble_eq_true rfl)⟩) ⟨fz_blind, fz_pre hPc hKc hDc hAm hS hFc⟩ rfl rfl hl.1 rfl (lv_room (Nat.le_of_ble_eq_true rfl)) dX11_isJoint_52 ⟨(Nat.le_of_ble_eq_true rfl), (Nat.le_of_ble_eq_true rfl)⟩) hS (fun q _ h => hFc q h) hFc (fun r u t H1 locs ht hvm hw hB hz1 hk1 hS => ?_)
        rcases hw with ⟨rfl, hp_12⟩ | ⟨rfl, hp_13⟩
        · have hP := fz_keep hP hk1
          generalize H1 = H at hP hS ⊢
          have hP : va_P (dC, dI) vwCl [(h0, .inl (cI, 4, .inl (upd (upd (upd (upd (fun _ => 0) (0 : Int32).toNatClampNeg p0) (1 : Int32).toNatClampNeg p1) (2 : Int32).toNatClampNeg p2) (3 : Int32).toNatClampNeg p3)))] H := hP
          refine W.widen (k := 0) (n := 0) (Nat.le_of_ble_eq_true rfl) (Nat.le_of_ble_eq_true rfl) ?_
          refine lv_iand hx hb dX11_isJoint_55 ?_
          refine lv_topi (fun z_9 e_9 => ?_)
          obtain rfl : 0 = z_9 := (e_9.trans (by decide)).symm
          refine lv_istore_n (lv' := [(1, .int 0), (5, .int p2), (4, .int 2), (3, .int 4), (2, .ref h0), (0, .ref h0)]) hx hb dX11_isJoint_56 rfl hl (by decide) rfl (fun ls hl => ?_)
          refine lv_iinc (v := 3) (lv' := [(4, .int 3), (1, .int 0), (5, .int p2), (3, .int 4), (2, .ref h0), (0, .ref h0)]) hx hb dX11_isJoint_57 hl (k := 2) rfl (by decide) (by decide) rfl (fun ls hl => ?_)
          refine lv_goto (tgt := 32) hx hb dX11_isJoint_60 (by decide) ?_
          refine lv_iload hx hb dX11_isJoint_32 (lv_at hl 0 rfl) ?_
          refine lv_iload_n hx hb dX11_isJoint_34 rfl (lv_at hl 3 rfl) ?_
          refine lv_icmp_ge (tgt := 63) hx hb dX11_isJoint_35 (by decide) (fun c_9 => absurd c_9 (by decide)) (fun _ => ?_)
          refine lv_aload_n hx hb dX11_isJoint_38 rfl (lv_at hl 4 rfl) ?_
          refine lv_iload hx hb dX11_isJoint_39 (lv_at hl 0 rfl) ?_
          refine va_iald hx hb hK hP 0 0 rfl rfl (fz_il (by decide)) dX11_isJoint_41 ?_
          refine lv_topi (fun z_9 e_9 => ?_)
          obtain rfl : p3 = z_9 := (e_9.trans (by first | rfl | simp [upd])).symm
          refine lv_istore (lv' := [(5, .int p3), (4, .int 3), (1, .int 0), (3, .int 4), (2, .ref h0), (0, .ref h0)]) hx hb dX11_isJoint_42 hl (by decide) rfl (fun ls hl => ?_)
          refine lv_iload_n hx hb dX11_isJoint_44 rfl (lv_at hl 2 rfl) ?_
          refine lv_iload hx hb dX11_isJoint_45 (lv_at hl 0 rfl) ?_
          refine lv_i2l (v := p3.toInt64) hx hb dX11_isJoint_47 rfl ?_
          refine lv_lconst (v := (0 : Int32).toInt64) hx hb dX11_isJoint_48 (by decide) ?_
          refine lv_ldc2 (v := 20) hx hb hown (hts _ (List.mem_cons_of_mem _ (List.mem_append_left _ (List.mem_of_getElem? (i := 0) rfl)))) dX11_isJoint_49 ?_
          refine lv_topl (fun z_9 e_9 => ?_)
          obtain rfl : (20 : Int32).toInt64 = z_9 := (e_9.trans (by decide)).symm
          have hPc := hP.sub (ws' := []) [] rfl
          have hDc := hD.sub (ws' := []) [] (by decide) rfl
          have hKc := hK.sub (tys' := []) [] rfl
          have hFc : ∀ q : Nat, H.size ≤ q → A q := fun q h => hA q (Nat.le_trans hS.1 h)
          refine va_calli (va_runS (As := [.long p3.toInt64, .long ((0 : Int32).toInt64), .long ((20 : Int32).toInt64)]) (rest := [.int 0]) ⟨hx, hb, hml, hown, hts⟩ (c_X11_isIn l dC dI e0 p3 0 20 H.size) (cwS 3 hts (goodIn_sub (fun _ h9 => List.mem_cons_of_mem _ (List.mem_append_right _ (h9))) (by decide +kernel)) rfl rfl rfl (by decide +kernel) ⟨(Nat.le_of_ble_eq_true rfl), (Nat.le_of_ble_eq_true rfl)⟩) ⟨fz_blind, fz_pre hPc hKc hDc hAm hS hFc⟩ rfl rfl hl.1 rfl (lv_room (Nat.le_of_ble_eq_true rfl)) dX11_isJoint_52 ⟨(Nat.le_of_ble_eq_true rfl), (Nat.le_of_ble_eq_true rfl)⟩) hS (fun q _ h => hFc q h) hFc (fun r u t H1 locs ht hvm hw hB hz1 hk1 hS => ?_)
          rcases hw with ⟨rfl, hp_14⟩ | ⟨rfl, hp_15⟩
          · have hP := fz_keep hP hk1
            generalize H1 = H at hP hS ⊢
            have hP : va_P (dC, dI) vwCl [(h0, .inl (cI, 4, .inl (upd (upd (upd (upd (fun _ => 0) (0 : Int32).toNatClampNeg p0) (1 : Int32).toNatClampNeg p1) (2 : Int32).toNatClampNeg p2) (3 : Int32).toNatClampNeg p3)))] H := hP
            refine W.widen (k := 0) (n := 0) (Nat.le_of_ble_eq_true rfl) (Nat.le_of_ble_eq_true rfl) ?_
            refine lv_iand hx hb dX11_isJoint_55 ?_
            refine lv_topi (fun z_9 e_9 => ?_)
            obtain rfl : 0 = z_9 := (e_9.trans (by decide)).symm
            refine lv_istore_n (lv' := [(1, .int 0), (5, .int p3), (4, .int 3), (3, .int 4), (2, .ref h0), (0, .ref h0)]) hx hb dX11_isJoint_56 rfl hl (by decide) rfl (fun ls hl => ?_)
            refine lv_iinc (v := 4) (lv' := [(4, .int 4), (1, .int 0), (5, .int p3), (3, .int 4), (2, .ref h0), (0, .ref h0)]) hx hb dX11_isJoint_57 hl (k := 2) rfl (by decide) (by decide) rfl (fun ls hl => ?_)
            refine lv_goto (tgt := 32) hx hb dX11_isJoint_60 (by decide) ?_
            refine lv_iload hx hb dX11_isJoint_32 (lv_at hl 0 rfl) ?_
            refine lv_iload_n hx hb dX11_isJoint_34 rfl (lv_at hl 3 rfl) ?_
            refine lv_icmp_ge (tgt := 63) hx hb dX11_isJoint_35 (by decide) (fun _ => ?_) (fun c_9 => absurd (by decide) c_9)
            refine lv_iload_n hx hb dX11_isJoint_63 rfl (lv_at hl 1 rfl) ?_
            refine W.widen (k := 0) (n := 0) (Nat.le_of_ble_eq_true rfl) (Nat.le_of_ble_eq_true rfl) ?_
            exact W.zret (v := 0) hx hb hr rfl (fun t ht hW => ⟨⟨0, (), rfl, Or.inr (⟨rfl, (q_c_X11_isJoint_4 c_1 hp_2 hp_5 hp_12 hp_14)⟩), trivial⟩, hS.F ht⟩) hS.2.2 dX11_isJoint_64
          · have hP := fz_keep hP hk1
            generalize H1 = H at hP hS ⊢
            have hP : va_P (dC, dI) vwCl [(h0, .inl (cI, 4, .inl (upd (upd (upd (upd (fun _ => 0) (0 : Int32).toNatClampNeg p0) (1 : Int32).toNatClampNeg p1) (2 : Int32).toNatClampNeg p2) (3 : Int32).toNatClampNeg p3)))] H := hP
            refine W.widen (k := 0) (n := 0) (Nat.le_of_ble_eq_true rfl) (Nat.le_of_ble_eq_true rfl) ?_
            refine lv_iand hx hb dX11_isJoint_55 ?_
            refine lv_topi (fun z_9 e_9 => ?_)
            obtain rfl : 0 = z_9 := (e_9.trans (by decide)).symm
            refine lv_istore_n (lv' := [(1, .int 0), (5, .int p3), (4, .int 3), (3, .int 4), (2, .ref h0), (0, .ref h0)]) hx hb dX11_isJoint_56 rfl hl (by decide) rfl (fun ls hl => ?_)
            refine lv_iinc (v := 4) (lv' := [(4, .int 4), (1, .int 0), (5, .int p3), (3, .int 4), (2, .ref h0), (0, .ref h0)]) hx hb dX11_isJoint_57 hl (k := 2) rfl (by decide) (by decide) rfl (fun ls hl => ?_)
            refine lv_goto (tgt := 32) hx hb dX11_isJoint_60 (by decide) ?_
            refine lv_iload hx hb dX11_isJoint_32 (lv_at hl 0 rfl) ?_
            refine lv_iload_n hx hb dX11_isJoint_34 rfl (lv_at hl 3 rfl) ?_
            refine lv_icmp_ge (tgt := 63) hx hb dX11_isJoint_35 (by decide) (fun _ => ?_) (fun c_9 => absurd (by decide) c_9)
            refine lv_iload_n hx hb dX11_isJoint_63 rfl (lv_at hl 1 rfl) ?_
            refine W.widen (k := 0) (n := 0) (Nat.le_of_ble_eq_true rfl) (Nat.le_of_ble_eq_true rfl) ?_
            exact W.zret (v := 0) hx hb hr rfl (fun t ht hW => ⟨⟨0, (), rfl, Or.inr (⟨rfl, (q_c_X11_isJoint_5 c_1 hp_2 hp_5 hp_12 hp_15)⟩), trivial⟩, hS.F ht⟩) hS.2.2 dX11_isJoint_64
        · have hP := fz_keep hP hk1
          generalize H1 = H at hP hS ⊢
          have hP : va_P (dC, dI) vwCl [(h0, .inl (cI, 4, .inl (upd (upd (upd (upd (fun _ => 0) (0 : Int32).toNatClampNeg p0) (1 : Int32).toNatClampNeg p1) (2 : Int32).toNatClampNeg p2) (3 : Int32).toNatClampNeg p3)))] H := hP
          refine W.widen (k := 0) (n := 0) (Nat.le_of_ble_eq_true rfl) (Nat.le_of_ble_eq_true rfl) ?_
          refine lv_iand hx hb dX11_isJoint_55 ?_
          refine lv_topi (fun z_9 e_9 => ?_)
          obtain rfl : 0 = z_9 := (e_9.trans (by decide)).symm
          refine lv_istore_n (lv' := [(1, .int 0), (5, .int p2), (4, .int 2), (3, .int 4), (2, .ref h0), (0, .ref h0)]) hx hb dX11_isJoint_56 rfl hl (by decide) rfl (fun ls hl => ?_)
          refine lv_iinc (v := 3) (lv' := [(4, .int 3), (1, .int 0), (5, .int p2), (3, .int 4), (2, .ref h0), (0, .ref h0)]) hx hb dX11_isJoint_57 hl (k := 2) rfl (by decide) (by decide) rfl (fun ls hl => ?_)
          refine lv_goto (tgt := 32) hx hb dX11_isJoint_60 (by decide) ?_
          refine lv_iload hx hb dX11_isJoint_32 (lv_at hl 0 rfl) ?_
          refine lv_iload_n hx hb dX11_isJoint_34 rfl (lv_at hl 3 rfl) ?_
          refine lv_icmp_ge (tgt := 63) hx hb dX11_isJoint_35 (by decide) (fun c_9 => absurd c_9 (by decide)) (fun _ => ?_)
          refine lv_aload_n hx hb dX11_isJoint_38 rfl (lv_at hl 4 rfl) ?_
          refine lv_iload hx hb dX11_isJoint_39 (lv_at hl 0 rfl) ?_
          refine va_iald hx hb hK hP 0 0 rfl rfl (fz_il (by decide)) dX11_isJoint_41 ?_
          refine lv_topi (fun z_9 e_9 => ?_)
          obtain rfl : p3 = z_9 := (e_9.trans (by first | rfl | simp [upd])).symm
          refine lv_istore (lv' := [(5, .int p3), (4, .int 3), (1, .int 0), (3, .int 4), (2, .ref h0), (0, .ref h0)]) hx hb dX11_isJoint_42 hl (by decide) rfl (fun ls hl => ?_)
          refine lv_iload_n hx hb dX11_isJoint_44 rfl (lv_at hl 2 rfl) ?_
          refine lv_iload hx hb dX11_isJoint_45 (lv_at hl 0 rfl) ?_
          refine lv_i2l (v := p3.toInt64) hx hb dX11_isJoint_47 rfl ?_
          refine lv_lconst (v := (0 : Int32).toInt64) hx hb dX11_isJoint_48 (by decide) ?_
          refine lv_ldc2 (v := 20) hx hb hown (hts _ (List.mem_cons_of_mem _ (List.mem_append_left _ (List.mem_of_getElem? (i := 0) rfl)))) dX11_isJoint_49 ?_
          refine lv_topl (fun z_9 e_9 => ?_)
          obtain rfl : (20 : Int32).toInt64 = z_9 := (e_9.trans (by decide)).symm
          have hPc := hP.sub (ws' := []) [] rfl
          have hDc := hD.sub (ws' := []) [] (by decide) rfl
          have hKc := hK.sub (tys' := []) [] rfl
          have hFc : ∀ q : Nat, H.size ≤ q → A q := fun q h => hA q (Nat.le_trans hS.1 h)
          refine va_calli (va_runS (As := [.long p3.toInt64, .long ((0 : Int32).toInt64), .long ((20 : Int32).toInt64)]) (rest := [.int 0]) ⟨hx, hb, hml, hown, hts⟩ (c_X11_isIn l dC dI e0 p3 0 20 H.size) (cwS 3 hts (goodIn_sub (fun _ h9 => List.mem_cons_of_mem _ (List.mem_append_right _ (h9))) (by decide +kernel)) rfl rfl rfl (by decide +kernel) ⟨(Nat.le_of_ble_eq_true rfl), (Nat.le_of_ble_eq_true rfl)⟩) ⟨fz_blind, fz_pre hPc hKc hDc hAm hS hFc⟩ rfl rfl hl.1 rfl (lv_room (Nat.le_of_ble_eq_true rfl)) dX11_isJoint_52 ⟨(Nat.le_of_ble_eq_true rfl), (Nat.le_of_ble_eq_true rfl)⟩) hS (fun q _ h => hFc q h) hFc (fun r u t H1 locs ht hvm hw hB hz1 hk1 hS => ?_)
          rcases hw with ⟨rfl, hp_16⟩ | ⟨rfl, hp_17⟩
          · have hP := fz_keep hP hk1
            generalize H1 = H at hP hS ⊢
            have hP : va_P (dC, dI) vwCl [(h0, .inl (cI, 4, .inl (upd (upd (upd (upd (fun _ => 0) (0 : Int32).toNatClampNeg p0) (1 : Int32).toNatClampNeg p1) (2 : Int32).toNatClampNeg p2) (3 : Int32).toNatClampNeg p3)))] H := hP
            refine W.widen (k := 0) (n := 0) (Nat.le_of_ble_eq_true rfl) (Nat.le_of_ble_eq_true rfl) ?_
            refine lv_iand hx hb dX11_isJoint_55 ?_
            refine lv_topi (fun z_9 e_9 => ?_)
            obtain rfl : 0 = z_9 := (e_9.trans (by decide)).symm
            refine lv_istore_n (lv' := [(1, .int 0), (5, .int p3), (4, .int 3), (3, .int 4), (2, .ref h0), (0, .ref h0)]) hx hb dX11_isJoint_56 rfl hl (by decide) rfl (fun ls hl => ?_)
            refine lv_iinc (v := 4) (lv' := [(4, .int 4), (1, .int 0), (5, .int p3), (3, .int 4), (2, .ref h0), (0, .ref h0)]) hx hb dX11_isJoint_57 hl (k := 2) rfl (by decide) (by decide) rfl (fun ls hl => ?_)
            refine lv_goto (tgt := 32) hx hb dX11_isJoint_60 (by decide) ?_
            refine lv_iload hx hb dX11_isJoint_32 (lv_at hl 0 rfl) ?_
            refine lv_iload_n hx hb dX11_isJoint_34 rfl (lv_at hl 3 rfl) ?_
            refine lv_icmp_ge (tgt := 63) hx hb dX11_isJoint_35 (by decide) (fun _ => ?_) (fun c_9 => absurd (by decide) c_9)
            refine lv_iload_n hx hb dX11_isJoint_63 rfl (lv_at hl 1 rfl) ?_
            refine W.widen (k := 0) (n := 0) (Nat.le_of_ble_eq_true rfl) (Nat.le_of_ble_eq_true rfl) ?_
            exact W.zret (v := 0) hx hb hr rfl (fun t ht hW => ⟨⟨0, (), rfl, Or.inr (⟨rfl, (q_c_X11_isJoint_6 c_1 hp_2 hp_5 hp_13 hp_16)⟩), trivial⟩, hS.F ht⟩) hS.2.2 dX11_isJoint_64
          · have hP := fz_keep hP hk1
            generalize H1 = H at hP hS ⊢
            have hP : va_P (dC, dI) vwCl [(h0, .inl (cI, 4, .inl (upd (upd (upd (upd (fun _ => 0) (0 : Int32).toNatClampNeg p0) (1 : Int32).toNatClampNeg p1) (2 : Int32).toNatClampNeg p2) (3 : Int32).toNatClampNeg p3)))] H := hP
            refine W.widen (k := 0) (n := 0) (Nat.le_of_ble_eq_true rfl) (Nat.le_of_ble_eq_true rfl) ?_
            refine lv_iand hx hb dX11_isJoint_55 ?_
            refine lv_topi (fun z_9 e_9 => ?_)
            obtain rfl : 0 = z_9 := (e_9.trans (by decide)).symm
            refine lv_istore_n (lv' := [(1, .int 0), (5, .int p3), (4, .int 3), (3, .int 4), (2, .ref h0), (0, .ref h0)]) hx hb dX11_isJoint_56 rfl hl (by decide) rfl (fun ls hl => ?_)
            refine lv_iinc (v := 4) (lv' := [(4, .int 4), (1, .int 0), (5, .int p3), (3, .int 4), (2, .ref h0), (0, .ref h0)]) hx hb dX11_isJoint_57 hl (k := 2) rfl (by decide) (by decide) rfl (fun ls hl => ?_)
            refine lv_goto (tgt := 32) hx hb dX11_isJoint_60 (by decide) ?_
            refine lv_iload hx hb dX11_isJoint_32 (lv_at hl 0 rfl) ?_
            refine lv_iload_n hx hb dX11_isJoint_34 rfl (lv_at hl 3 rfl) ?_
            refine lv_icmp_ge (tgt := 63) hx hb dX11_isJoint_35 (by decide) (fun _ => ?_) (fun c_9 => absurd (by decide) c_9)
            refine lv_iload_n hx hb dX11_isJoint_63 rfl (lv_at hl 1 rfl) ?_
            refine W.widen (k := 0) (n := 0) (Nat.le_of_ble_eq_true rfl) (Nat.le_of_ble_eq_true rfl) ?_
            exact W.zret (v := 0) hx hb hr rfl (fun t ht hW => ⟨⟨0, (), rfl, Or.inr (⟨rfl, (q_c_X11_isJoint_7 c_1 hp_2 hp_5 hp_13 hp_17)⟩), trivial⟩, hS.F ht⟩) hS.2.2 dX11_isJoint_64
    · have hP := fz_keep hP hk1
      generalize H1 = H at hP hS ⊢
      have hP : va_P (dC, dI) vwCl [(h0, .inl (cI, 4, .inl (upd (upd (upd (upd (fun _ => 0) (0 : Int32).toNatClampNeg p0) (1 : Int32).toNatClampNeg p1) (2 : Int32).toNatClampNeg p2) (3 : Int32).toNatClampNeg p3)))] H := hP
      refine W.widen (k := 0) (n := 0) (Nat.le_of_ble_eq_true rfl) (Nat.le_of_ble_eq_true rfl) ?_
      refine lv_iand hx hb dX11_isJoint_55 ?_
      refine lv_topi (fun z_9 e_9 => ?_)
      obtain rfl : 0 = z_9 := (e_9.trans (by decide)).symm
      refine lv_istore_n (lv' := [(1, .int 0), (5, .int p0), (4, .int 0), (3, .int 4), (2, .ref h0), (0, .ref h0)]) hx hb dX11_isJoint_56 rfl hl (by decide) rfl (fun ls hl => ?_)
      refine lv_iinc (v := 1) (lv' := [(4, .int 1), (1, .int 0), (5, .int p0), (3, .int 4), (2, .ref h0), (0, .ref h0)]) hx hb dX11_isJoint_57 hl (k := 2) rfl (by decide) (by decide) rfl (fun ls hl => ?_)
      refine lv_goto (tgt := 32) hx hb dX11_isJoint_60 (by decide) ?_
      refine lv_iload hx hb dX11_isJoint_32 (lv_at hl 0 rfl) ?_
      refine lv_iload_n hx hb dX11_isJoint_34 rfl (lv_at hl 3 rfl) ?_
      refine lv_icmp_ge (tgt := 63) hx hb dX11_isJoint_35 (by decide) (fun c_9 => absurd c_9 (by decide)) (fun _ => ?_)
      refine lv_aload_n hx hb dX11_isJoint_38 rfl (lv_at hl 4 rfl) ?_
      refine lv_iload hx hb dX11_isJoint_39 (lv_at hl 0 rfl) ?_
      refine va_iald hx hb hK hP 0 0 rfl rfl (fz_il (by decide)) dX11_isJoint_41 ?_
      refine lv_topi (fun z_9 e_9 => ?_)
      obtain rfl : p1 = z_9 := (e_9.trans (by first | rfl | simp [upd])).symm
      refine lv_istore (lv' := [(5, .int p1), (4, .int 1), (1, .int 0), (3, .int 4), (2, .ref h0), (0, .ref h0)]) hx hb dX11_isJoint_42 hl (by decide) rfl (fun ls hl => ?_)
      refine lv_iload_n hx hb dX11_isJoint_44 rfl (lv_at hl 2 rfl) ?_
      refine lv_iload hx hb dX11_isJoint_45 (lv_at hl 0 rfl) ?_
      refine lv_i2l (v := p1.toInt64) hx hb dX11_isJoint_47 rfl ?_
      refine lv_lconst (v := (0 : Int32).toInt64) hx hb dX11_isJoint_48 (by decide) ?_
      refine lv_ldc2 (v := 20) hx hb hown (hts _ (List.mem_cons_of_mem _ (List.mem_append_left _ (List.mem_of_getElem? (i := 0) rfl)))) dX11_isJoint_49 ?_
      refine lv_topl (fun z_9 e_9 => ?_)
      obtain rfl : (20 : Int32).toInt64 = z_9 := (e_9.trans (by decide)).symm
      have hPc := hP.sub (ws' := []) [] rfl
      have hDc := hD.sub (ws' := []) [] (by decide) rfl
      have hKc := hK.sub (tys' := []) [] rfl
      have hFc : ∀ q : Nat, H.size ≤ q → A q := fun q h => hA q (Nat.le_trans hS.1 h)
      refine va_calli (va_runS (As := [.long p1.toInt64, .long ((0 : Int32).toInt64), .long ((20 : Int32).toInt64)]) (rest := [.int 0]) ⟨hx, hb, hml, hown, hts⟩ (c_X11_isIn l dC dI e0 p1 0 20 H.size) (cwS 3 hts (goodIn_sub (fun _ h9 => List.mem_cons_of_mem _ (List.mem_append_right _ (h9))) (by decide +kernel)) rfl rfl rfl (by decide +kernel) ⟨(Nat.le_of_ble_eq_true rfl), (Nat.le_of_ble_eq_true rfl)⟩) ⟨fz_blind, fz_pre hPc hKc hDc hAm hS hFc⟩ rfl rfl hl.1 rfl (lv_room (Nat.le_of_ble_eq_true rfl)) dX11_isJoint_52 ⟨(Nat.le_of_ble_eq_true rfl), (Nat.le_of_ble_eq_true rfl)⟩) hS (fun q _ h => hFc q h) hFc (fun r u t H1 locs ht hvm hw hB hz1 hk1 hS => ?_)
      rcases hw with ⟨rfl, hp_18⟩ | ⟨rfl, hp_19⟩
      · have hP := fz_keep hP hk1
        generalize H1 = H at hP hS ⊢
        have hP : va_P (dC, dI) vwCl [(h0, .inl (cI, 4, .inl (upd (upd (upd (upd (fun _ => 0) (0 : Int32).toNatClampNeg p0) (1 : Int32).toNatClampNeg p1) (2 : Int32).toNatClampNeg p2) (3 : Int32).toNatClampNeg p3)))] H := hP
        refine W.widen (k := 0) (n := 0) (Nat.le_of_ble_eq_true rfl) (Nat.le_of_ble_eq_true rfl) ?_
        refine lv_iand hx hb dX11_isJoint_55 ?_
        refine lv_topi (fun z_9 e_9 => ?_)
        obtain rfl : 0 = z_9 := (e_9.trans (by decide)).symm
        refine lv_istore_n (lv' := [(1, .int 0), (5, .int p1), (4, .int 1), (3, .int 4), (2, .ref h0), (0, .ref h0)]) hx hb dX11_isJoint_56 rfl hl (by decide) rfl (fun ls hl => ?_)
        refine lv_iinc (v := 2) (lv' := [(4, .int 2), (1, .int 0), (5, .int p1), (3, .int 4), (2, .ref h0), (0, .ref h0)]) hx hb dX11_isJoint_57 hl (k := 2) rfl (by decide) (by decide) rfl (fun ls hl => ?_)
        refine lv_goto (tgt := 32) hx hb dX11_isJoint_60 (by decide) ?_
        refine lv_iload hx hb dX11_isJoint_32 (lv_at hl 0 rfl) ?_
        refine lv_iload_n hx hb dX11_isJoint_34 rfl (lv_at hl 3 rfl) ?_
        refine lv_icmp_ge (tgt := 63) hx hb dX11_isJoint_35 (by decide) (fun c_9 => absurd c_9 (by decide)) (fun _ => ?_)
        refine lv_aload_n hx hb dX11_isJoint_38 rfl (lv_at hl 4 rfl) ?_
        refine lv_iload hx hb dX11_isJoint_39 (lv_at hl 0 rfl) ?_
        refine va_iald hx hb hK hP 0 0 rfl rfl (fz_il (by decide)) dX11_isJoint_41 ?_
        refine lv_topi (fun z_9 e_9 => ?_)
        obtain rfl : p2 = z_9 := (e_9.trans (by first | rfl | simp [upd])).symm
        refine lv_istore (lv' := [(5, .int p2), (4, .int 2), (1, .int 0), (3, .int 4), (2, .ref h0), (0, .ref h0)]) hx hb dX11_isJoint_42 hl (by decide) rfl (fun ls hl => ?_)
        refine lv_iload_n hx hb dX11_isJoint_44 rfl (lv_at hl 2 rfl) ?_
        refine lv_iload hx hb dX11_isJoint_45 (lv_at hl 0 rfl) ?_
        refine lv_i2l (v := p2.toInt64) hx hb dX11_isJoint_47 rfl ?_
        refine lv_lconst (v := (0 : Int32).toInt64) hx hb dX11_isJoint_48 (by decide) ?_
        refine lv_ldc2 (v := 20) hx hb hown (hts _ (List.mem_cons_of_mem _ (List.mem_append_left _ (List.mem_of_getElem? (i := 0) rfl)))) dX11_isJoint_49 ?_
        refine lv_topl (fun z_9 e_9 => ?_)
        obtain rfl : (20 : Int32).toInt64 = z_9 := (e_9.trans (by decide)).symm
        have hPc := hP.sub (ws' := []) [] rfl
        have hDc := hD.sub (ws' := []) [] (by decide) rfl
        have hKc := hK.sub (tys' := []) [] rfl
        have hFc : ∀ q : Nat, H.size ≤ q → A q := fun q h => hA q (Nat.le_trans hS.1 h)
        refine va_calli (va_runS (As := [.long p2.toInt64, .long ((0 : Int32).toInt64), .long ((20 : Int32).toInt64)]) (rest := [.int 0]) ⟨hx, hb, hml, hown, hts⟩ (c_X11_isIn l dC dI e0 p2 0 20 H.size) (cwS 3 hts (goodIn_sub (fun _ h9 => List.mem_cons_of_mem _ (List.mem_append_right _ (h9))) (by decide +kernel)) rfl rfl rfl (by decide +kernel) ⟨(Nat.le_of_ble_eq_true rfl), (Nat.le_of_ble_eq_true rfl)⟩) ⟨fz_blind, fz_pre hPc hKc hDc hAm hS hFc⟩ rfl rfl hl.1 rfl (lv_room (Nat.le_of_ble_eq_true rfl)) dX11_isJoint_52 ⟨(Nat.le_of_ble_eq_true rfl), (Nat.le_of_ble_eq_true rfl)⟩) hS (fun q _ h => hFc q h) hFc (fun r u t H1 locs ht hvm hw hB hz1 hk1 hS => ?_)
        rcases hw with ⟨rfl, hp_20⟩ | ⟨rfl, hp_21⟩
        · have hP := fz_keep hP hk1
          generalize H1 = H at hP hS ⊢
          have hP : va_P (dC, dI) vwCl [(h0, .inl (cI, 4, .inl (upd (upd (upd (upd (fun _ => 0) (0 : Int32).toNatClampNeg p0) (1 : Int32).toNatClampNeg p1) (2 : Int32).toNatClampNeg p2) (3 : Int32).toNatClampNeg p3)))] H := hP
          refine W.widen (k := 0) (n := 0) (Nat.le_of_ble_eq_true rfl) (Nat.le_of_ble_eq_true rfl) ?_
          refine lv_iand hx hb dX11_isJoint_55 ?_
          refine lv_topi (fun z_9 e_9 => ?_)
          obtain rfl : 0 = z_9 := (e_9.trans (by decide)).symm
          refine lv_istore_n (lv' := [(1, .int 0), (5, .int p2), (4, .int 2), (3, .int 4), (2, .ref h0), (0, .ref h0)]) hx hb dX11_isJoint_56 rfl hl (by decide) rfl (fun ls hl => ?_)
          refine lv_iinc (v := 3) (lv' := [(4, .int 3), (1, .int 0), (5, .int p2), (3, .int 4), (2, .ref h0), (0, .ref h0)]) hx hb dX11_isJoint_57 hl (k := 2) rfl (by decide) (by decide) rfl (fun ls hl => ?_)
          refine lv_goto (tgt := 32) hx hb dX11_isJoint_60 (by decide) ?_
          refine lv_iload hx hb dX11_isJoint_32 (lv_at hl 0 rfl) ?_
          refine lv_iload_n hx hb dX11_isJoint_34 rfl (lv_at hl 3 rfl) ?_
          refine lv_icmp_ge (tgt := 63) hx hb dX11_isJoint_35 (by decide) (fun c_9 => absurd c_9 (by decide)) (fun _ => ?_)
          refine lv_aload_n hx hb dX11_isJoint_38 rfl (lv_at hl 4 rfl) ?_
          refine lv_iload hx hb dX11_isJoint_39 (lv_at hl 0 rfl) ?_
          refine va_iald hx hb hK hP 0 0 rfl rfl (fz_il (by decide)) dX11_isJoint_41 ?_
          refine lv_topi (fun z_9 e_9 => ?_)
          obtain rfl : p3 = z_9 := (e_9.trans (by first | rfl | simp [upd])).symm
          refine lv_istore (lv' := [(5, .int p3), (4, .int 3), (1, .int 0), (3, .int 4), (2, .ref h0), (0, .ref h0)]) hx hb dX11_isJoint_42 hl (by decide) rfl (fun ls hl => ?_)
          refine lv_iload_n hx hb dX11_isJoint_44 rfl (lv_at hl 2 rfl) ?_
          refine lv_iload hx hb dX11_isJoint_45 (lv_at hl 0 rfl) ?_
          refine lv_i2l (v := p3.toInt64) hx hb dX11_isJoint_47 rfl ?_
          refine lv_lconst (v := (0 : Int32).toInt64) hx hb dX11_isJoint_48 (by decide) ?_
          refine lv_ldc2 (v := 20) hx hb hown (hts _ (List.mem_cons_of_mem _ (List.mem_append_left _ (List.mem_of_getElem? (i := 0) rfl)))) dX11_isJoint_49 ?_
          refine lv_topl (fun z_9 e_9 => ?_)
          obtain rfl : (20 : Int32).toInt64 = z_9 := (e_9.trans (by decide)).symm
          have hPc := hP.sub (ws' := []) [] rfl
          have hDc := hD.sub (ws' := []) [] (by decide) rfl
          have hKc := hK.sub (tys' := []) [] rfl
          have hFc : ∀ q : Nat, H.size ≤ q → A q := fun q h => hA q (Nat.le_trans hS.1 h)
          refine va_calli (va_runS (As := [.long p3.toInt64, .long ((0 : Int32).toInt64), .long ((20 : Int32).toInt64)]) (rest := [.int 0]) ⟨hx, hb, hml, hown, hts⟩ (c_X11_isIn l dC dI e0 p3 0 20 H.size) (cwS 3 hts (goodIn_sub (fun _ h9 => List.mem_cons_of_mem _ (List.mem_append_right _ (h9))) (by decide +kernel)) rfl rfl rfl (by decide +kernel) ⟨(Nat.le_of_ble_eq_true rfl), (Nat.le_of_ble_eq_true rfl)⟩) ⟨fz_blind, fz_pre hPc hKc hDc hAm hS hFc⟩ rfl rfl hl.1 rfl (lv_room (Nat.le_of_ble_eq_true rfl)) dX11_isJoint_52 ⟨(Nat.le_of_ble_eq_true rfl), (Nat.le_of_ble_eq_true rfl)⟩) hS (fun q _ h => hFc q h) hFc (fun r u t H1 locs ht hvm hw hB hz1 hk1 hS => ?_)
          rcases hw with ⟨rfl, hp_22⟩ | ⟨rfl, hp_23⟩
          · have hP := fz_keep hP hk1
            generalize H1 = H at hP hS ⊢
            have hP : va_P (dC, dI) vwCl [(h0, .inl (cI, 4, .inl (upd (upd (upd (upd (fun _ => 0) (0 : Int32).toNatClampNeg p0) (1 : Int32).toNatClampNeg p1) (2 : Int32).toNatClampNeg p2) (3 : Int32).toNatClampNeg p3)))] H := hP
            refine W.widen (k := 0) (n := 0) (Nat.le_of_ble_eq_true rfl) (Nat.le_of_ble_eq_true rfl) ?_
            refine lv_iand hx hb dX11_isJoint_55 ?_
            refine lv_topi (fun z_9 e_9 => ?_)
            obtain rfl : 0 = z_9 := (e_9.trans (by decide)).symm
            refine lv_istore_n (lv' := [(1, .int 0), (5, .int p3), (4, .int 3), (3, .int 4), (2, .ref h0), (0, .ref h0)]) hx hb dX11_isJoint_56 rfl hl (by decide) rfl (fun ls hl => ?_)
            refine lv_iinc (v := 4) (lv' := [(4, .int 4), (1, .int 0), (5, .int p3), (3, .int 4), (2, .ref h0), (0, .ref h0)]) hx hb dX11_isJoint_57 hl (k := 2) rfl (by decide) (by decide) rfl (fun ls hl => ?_)
            refine lv_goto (tgt := 32) hx hb dX11_isJoint_60 (by decide) ?_
            refine lv_iload hx hb dX11_isJoint_32 (lv_at hl 0 rfl) ?_
            refine lv_iload_n hx hb dX11_isJoint_34 rfl (lv_at hl 3 rfl) ?_
            refine lv_icmp_ge (tgt := 63) hx hb dX11_isJoint_35 (by decide) (fun _ => ?_) (fun c_9 => absurd (by decide) c_9)
            refine lv_iload_n hx hb dX11_isJoint_63 rfl (lv_at hl 1 rfl) ?_
            refine W.widen (k := 0) (n := 0) (Nat.le_of_ble_eq_true rfl) (Nat.le_of_ble_eq_true rfl) ?_
            exact W.zret (v := 0) hx hb hr rfl (fun t ht hW => ⟨⟨0, (), rfl, Or.inr (⟨rfl, (q_c_X11_isJoint_8 c_1 hp_3 hp_18 hp_20 hp_22)⟩), trivial⟩, hS.F ht⟩) hS.2.2 dX11_isJoint_64
          · have hP := fz_keep hP hk1
            generalize H1 = H at hP hS ⊢
            have hP : va_P (dC, dI) vwCl [(h0, .inl (cI, 4, .inl (upd (upd (upd (upd (fun _ => 0) (0 : Int32).toNatClampNeg p0) (1 : Int32).toNatClampNeg p1) (2 : Int32).toNatClampNeg p2) (3 : Int32).toNatClampNeg p3)))] H := hP
            refine W.widen (k := 0) (n := 0) (Nat.le_of_ble_eq_true rfl) (Nat.le_of_ble_eq_true rfl) ?_
            refine lv_iand hx hb dX11_isJoint_55 ?_
            refine lv_topi (fun z_9 e_9 => ?_)
            obtain rfl : 0 = z_9 := (e_9.trans (by decide)).symm
            refine lv_istore_n (lv' := [(1, .int 0), (5, .int p3), (4, .int 3), (3, .int 4), (2, .ref h0), (0, .ref h0)]) hx hb dX11_isJoint_56 rfl hl (by decide) rfl (fun ls hl => ?_)
            refine lv_iinc (v := 4) (lv' := [(4, .int 4), (1, .int 0), (5, .int p3), (3, .int 4), (2, .ref h0), (0, .ref h0)]) hx hb dX11_isJoint_57 hl (k := 2) rfl (by decide) (by decide) rfl (fun ls hl => ?_)
            refine lv_goto (tgt := 32) hx hb dX11_isJoint_60 (by decide) ?_
            refine lv_iload hx hb dX11_isJoint_32 (lv_at hl 0 rfl) ?_
            refine lv_iload_n hx hb dX11_isJoint_34 rfl (lv_at hl 3 rfl) ?_
            refine lv_icmp_ge (tgt := 63) hx hb dX11_isJoint_35 (by decide) (fun _ => ?_) (fun c_9 => absurd (by decide) c_9)
            refine lv_iload_n hx hb dX11_isJoint_63 rfl (lv_at hl 1 rfl) ?_
            refine W.widen (k := 0) (n := 0) (Nat.le_of_ble_eq_true rfl) (Nat.le_of_ble_eq_true rfl) ?_
            exact W.zret (v := 0) hx hb hr rfl (fun t ht hW => ⟨⟨0, (), rfl, Or.inr (⟨rfl, (q_c_X11_isJoint_9 c_1 hp_3 hp_18 hp_20 hp_23)⟩), trivial⟩, hS.F ht⟩) hS.2.2 dX11_isJoint_64
        · have hP := fz_keep hP hk1
          generalize H1 = H at hP hS ⊢
          have hP : va_P (dC, dI) vwCl [(h0, .inl (cI, 4, .inl (upd (upd (upd (upd (fun _ => 0) (0 : Int32).toNatClampNeg p0) (1 : Int32).toNatClampNeg p1) (2 : Int32).toNatClampNeg p2) (3 : Int32).toNatClampNeg p3)))] H := hP
          refine W.widen (k := 0) (n := 0) (Nat.le_of_ble_eq_true rfl) (Nat.le_of_ble_eq_true rfl) ?_
          refine lv_iand hx hb dX11_isJoint_55 ?_
          refine lv_topi (fun z_9 e_9 => ?_)
          obtain rfl : 0 = z_9 := (e_9.trans (by decide)).symm
          refine lv_istore_n (lv' := [(1, .int 0), (5, .int p2), (4, .int 2), (3, .int 4), (2, .ref h0), (0, .ref h0)]) hx hb dX11_isJoint_56 rfl hl (by decide) rfl (fun ls hl => ?_)
          refine lv_iinc (v := 3) (lv' := [(4, .int 3), (1, .int 0), (5, .int p2), (3, .int 4), (2, .ref h0), (0, .ref h0)]) hx hb dX11_isJoint_57 hl (k := 2) rfl (by decide) (by decide) rfl (fun ls hl => ?_)
          refine lv_goto (tgt := 32) hx hb dX11_isJoint_60 (by decide) ?_
          refine lv_iload hx hb dX11_isJoint_32 (lv_at hl 0 rfl) ?_
          refine lv_iload_n hx hb dX11_isJoint_34 rfl (lv_at hl 3 rfl) ?_
          refine lv_icmp_ge (tgt := 63) hx hb dX11_isJoint_35 (by decide) (fun c_9 => absurd c_9 (by decide)) (fun _ => ?_)
          refine lv_aload_n hx hb dX11_isJoint_38 rfl (lv_at hl 4 rfl) ?_
          refine lv_iload hx hb dX11_isJoint_39 (lv_at hl 0 rfl) ?_
          refine va_iald hx hb hK hP 0 0 rfl rfl (fz_il (by decide)) dX11_isJoint_41 ?_
          refine lv_topi (fun z_9 e_9 => ?_)
          obtain rfl : p3 = z_9 := (e_9.trans (by first | rfl | simp [upd])).symm
          refine lv_istore (lv' := [(5, .int p3), (4, .int 3), (1, .int 0), (3, .int 4), (2, .ref h0), (0, .ref h0)]) hx hb dX11_isJoint_42 hl (by decide) rfl (fun ls hl => ?_)
          refine lv_iload_n hx hb dX11_isJoint_44 rfl (lv_at hl 2 rfl) ?_
          refine lv_iload hx hb dX11_isJoint_45 (lv_at hl 0 rfl) ?_
          refine lv_i2l (v := p3.toInt64) hx hb dX11_isJoint_47 rfl ?_
          refine lv_lconst (v := (0 : Int32).toInt64) hx hb dX11_isJoint_48 (by decide) ?_
          refine lv_ldc2 (v := 20) hx hb hown (hts _ (List.mem_cons_of_mem _ (List.mem_append_left _ (List.mem_of_getElem? (i := 0) rfl)))) dX11_isJoint_49 ?_
          refine lv_topl (fun z_9 e_9 => ?_)
          obtain rfl : (20 : Int32).toInt64 = z_9 := (e_9.trans (by decide)).symm
          have hPc := hP.sub (ws' := []) [] rfl
          have hDc := hD.sub (ws' := []) [] (by decide) rfl
          have hKc := hK.sub (tys' := []) [] rfl
          have hFc : ∀ q : Nat, H.size ≤ q → A q := fun q h => hA q (Nat.le_trans hS.1 h)
          refine va_calli (va_runS (As := [.long p3.toInt64, .long ((0 : Int32).toInt64), .long ((20 : Int32).toInt64)]) (rest := [.int 0]) ⟨hx, hb, hml, hown, hts⟩ (c_X11_isIn l dC dI e0 p3 0 20 H.size) (cwS 3 hts (goodIn_sub (fun _ h9 => List.mem_cons_of_mem _ (List.mem_append_right _ (h9))) (by decide +kernel)) rfl rfl rfl (by decide +kernel) ⟨(Nat.le_of_ble_eq_true rfl), (Nat.le_of_ble_eq_true rfl)⟩) ⟨fz_blind, fz_pre hPc hKc hDc hAm hS hFc⟩ rfl rfl hl.1 rfl (lv_room (Nat.le_of_ble_eq_true rfl)) dX11_isJoint_52 ⟨(Nat.le_of_ble_eq_true rfl), (Nat.le_of_ble_eq_true rfl)⟩) hS (fun q _ h => hFc q h) hFc (fun r u t H1 locs ht hvm hw hB hz1 hk1 hS => ?_)
          rcases hw with ⟨rfl, hp_24⟩ | ⟨rfl, hp_25⟩
          · have hP := fz_keep hP hk1
            generalize H1 = H at hP hS ⊢
            have hP : va_P (dC, dI) vwCl [(h0, .inl (cI, 4, .inl (upd (upd (upd (upd (fun _ => 0) (0 : Int32).toNatClampNeg p0) (1 : Int32).toNatClampNeg p1) (2 : Int32).toNatClampNeg p2) (3 : Int32).toNatClampNeg p3)))] H := hP
            refine W.widen (k := 0) (n := 0) (Nat.le_of_ble_eq_true rfl) (Nat.le_of_ble_eq_true rfl) ?_
            refine lv_iand hx hb dX11_isJoint_55 ?_
            refine lv_topi (fun z_9 e_9 => ?_)
            obtain rfl : 0 = z_9 := (e_9.trans (by decide)).symm
            refine lv_istore_n (lv' := [(1, .int 0), (5, .int p3), (4, .int 3), (3, .int 4), (2, .ref h0), (0, .ref h0)]) hx hb dX11_isJoint_56 rfl hl (by decide) rfl (fun ls hl => ?_)
            refine lv_iinc (v := 4) (lv' := [(4, .int 4), (1, .int 0), (5, .int p3), (3, .int 4), (2, .ref h0), (0, .ref h0)]) hx hb dX11_isJoint_57 hl (k := 2) rfl (by decide) (by decide) rfl (fun ls hl => ?_)
            refine lv_goto (tgt := 32) hx hb dX11_isJoint_60 (by decide) ?_
            refine lv_iload hx hb dX11_isJoint_32 (lv_at hl 0 rfl) ?_
            refine lv_iload_n hx hb dX11_isJoint_34 rfl (lv_at hl 3 rfl) ?_
            refine lv_icmp_ge (tgt := 63) hx hb dX11_isJoint_35 (by decide) (fun _ => ?_) (fun c_9 => absurd (by decide) c_9)
            refine lv_iload_n hx hb dX11_isJoint_63 rfl (lv_at hl 1 rfl) ?_
            refine W.widen (k := 0) (n := 0) (Nat.le_of_ble_eq_true rfl) (Nat.le_of_ble_eq_true rfl) ?_
            exact W.zret (v := 0) hx hb hr rfl (fun t ht hW => ⟨⟨0, (), rfl, Or.inr (⟨rfl, (q_c_X11_isJoint_10 c_1 hp_3 hp_18 hp_21 hp_24)⟩), trivial⟩, hS.F ht⟩) hS.2.2 dX11_isJoint_64
          · have hP := fz_keep hP hk1
            generalize H1 = H at hP hS ⊢
            have hP : va_P (dC, dI) vwCl [(h0, .inl (cI, 4, .inl (upd (upd (upd (upd (fun _ => 0) (0 : Int32).toNatClampNeg p0) (1 : Int32).toNatClampNeg p1) (2 : Int32).toNatClampNeg p2) (3 : Int32).toNatClampNeg p3)))] H := hP
            refine W.widen (k := 0) (n := 0) (Nat.le_of_ble_eq_true rfl) (Nat.le_of_ble_eq_true rfl) ?_
            refine lv_iand hx hb dX11_isJoint_55 ?_
            refine lv_topi (fun z_9 e_9 => ?_)
            obtain rfl : 0 = z_9 := (e_9.trans (by decide)).symm
            refine lv_istore_n (lv' := [(1, .int 0), (5, .int p3), (4, .int 3), (3, .int 4), (2, .ref h0), (0, .ref h0)]) hx hb dX11_isJoint_56 rfl hl (by decide) rfl (fun ls hl => ?_)
            refine lv_iinc (v := 4) (lv' := [(4, .int 4), (1, .int 0), (5, .int p3), (3, .int 4), (2, .ref h0), (0, .ref h0)]) hx hb dX11_isJoint_57 hl (k := 2) rfl (by decide) (by decide) rfl (fun ls hl => ?_)
            refine lv_goto (tgt := 32) hx hb dX11_isJoint_60 (by decide) ?_
            refine lv_iload hx hb dX11_isJoint_32 (lv_at hl 0 rfl) ?_
            refine lv_iload_n hx hb dX11_isJoint_34 rfl (lv_at hl 3 rfl) ?_
            refine lv_icmp_ge (tgt := 63) hx hb dX11_isJoint_35 (by decide) (fun _ => ?_) (fun c_9 => absurd (by decide) c_9)
            refine lv_iload_n hx hb dX11_isJoint_63 rfl (lv_at hl 1 rfl) ?_
            refine W.widen (k := 0) (n := 0) (Nat.le_of_ble_eq_true rfl) (Nat.le_of_ble_eq_true rfl) ?_
            exact W.zret (v := 0) hx hb hr rfl (fun t ht hW => ⟨⟨0, (), rfl, Or.inr (⟨rfl, (q_c_X11_isJoint_11 c_1 hp_3 hp_18 hp_21 hp_25)⟩), trivial⟩, hS.F ht⟩) hS.2.2 dX11_isJoint_64
      · have hP := fz_keep hP hk1
        generalize H1 = H at hP hS ⊢
        have hP : va_P (dC, dI) vwCl [(h0, .inl (cI, 4, .inl (upd (upd (upd (upd (fun _ => 0) (0 : Int32).toNatClampNeg p0) (1 : Int32).toNatClampNeg p1) (2 : Int32).toNatClampNeg p2) (3 : Int32).toNatClampNeg p3)))] H := hP
        refine W.widen (k := 0) (n := 0) (Nat.le_of_ble_eq_true rfl) (Nat.le_of_ble_eq_true rfl) ?_
        refine lv_iand hx hb dX11_isJoint_55 ?_
        refine lv_topi (fun z_9 e_9 => ?_)
        obtain rfl : 0 = z_9 := (e_9.trans (by decide)).symm
        refine lv_istore_n (lv' := [(1, .int 0), (5, .int p1), (4, .int 1), (3, .int 4), (2, .ref h0), (0, .ref h0)]) hx hb dX11_isJoint_56 rfl hl (by decide) rfl (fun ls hl => ?_)
        refine lv_iinc (v := 2) (lv' := [(4, .int 2), (1, .int 0), (5, .int p1), (3, .int 4), (2, .ref h0), (0, .ref h0)]) hx hb dX11_isJoint_57 hl (k := 2) rfl (by decide) (by decide) rfl (fun ls hl => ?_)
        refine lv_goto (tgt := 32) hx hb dX11_isJoint_60 (by decide) ?_
        refine lv_iload hx hb dX11_isJoint_32 (lv_at hl 0 rfl) ?_
        refine lv_iload_n hx hb dX11_isJoint_34 rfl (lv_at hl 3 rfl) ?_
        refine lv_icmp_ge (tgt := 63) hx hb dX11_isJoint_35 (by decide) (fun c_9 => absurd c_9 (by decide)) (fun _ => ?_)
        refine lv_aload_n hx hb dX11_isJoint_38 rfl (lv_at hl 4 rfl) ?_
        refine lv_iload hx hb dX11_isJoint_39 (lv_at hl 0 rfl) ?_
        refine va_iald hx hb hK hP 0 0 rfl rfl (fz_il (by decide)) dX11_isJoint_41 ?_
        refine lv_topi (fun z_9 e_9 => ?_)
        obtain rfl : p2 = z_9 := (e_9.trans (by first | rfl | simp [upd])).symm
        refine lv_istore (lv' := [(5, .int p2), (4, .int 2), (1, .int 0), (3, .int 4), (2, .ref h0), (0, .ref h0)]) hx hb dX11_isJoint_42 hl (by decide) rfl (fun ls hl => ?_)
        refine lv_iload_n hx hb dX11_isJoint_44 rfl (lv_at hl 2 rfl) ?_
        refine lv_iload hx hb dX11_isJoint_45 (lv_at hl 0 rfl) ?_
        refine lv_i2l (v := p2.toInt64) hx hb dX11_isJoint_47 rfl ?_
        refine lv_lconst (v := (0 : Int32).toInt64) hx hb dX11_isJoint_48 (by decide) ?_
        refine lv_ldc2 (v := 20) hx hb hown (hts _ (List.mem_cons_of_mem _ (List.mem_append_left _ (List.mem_of_getElem? (i := 0) rfl)))) dX11_isJoint_49 ?_
        refine lv_topl (fun z_9 e_9 => ?_)
        obtain rfl : (20 : Int32).toInt64 = z_9 := (e_9.trans (by decide)).symm
        have hPc := hP.sub (ws' := []) [] rfl
        have hDc := hD.sub (ws' := []) [] (by decide) rfl
        have hKc := hK.sub (tys' := []) [] rfl
        have hFc : ∀ q : Nat, H.size ≤ q → A q := fun q h => hA q (Nat.le_trans hS.1 h)
        refine va_calli (va_runS (As := [.long p2.toInt64, .long ((0 : Int32).toInt64), .long ((20 : Int32).toInt64)]) (rest := [.int 0]) ⟨hx, hb, hml, hown, hts⟩ (c_X11_isIn l dC dI e0 p2 0 20 H.size) (cwS 3 hts (goodIn_sub (fun _ h9 => List.mem_cons_of_mem _ (List.mem_append_right _ (h9))) (by decide +kernel)) rfl rfl rfl (by decide +kernel) ⟨(Nat.le_of_ble_eq_true rfl), (Nat.le_of_ble_eq_true rfl)⟩) ⟨fz_blind, fz_pre hPc hKc hDc hAm hS hFc⟩ rfl rfl hl.1 rfl (lv_room (Nat.le_of_ble_eq_true rfl)) dX11_isJoint_52 ⟨(Nat.le_of_ble_eq_true rfl), (Nat.le_of_ble_eq_true rfl)⟩) hS (fun q _ h => hFc q h) hFc (fun r u t H1 locs ht hvm hw hB hz1 hk1 hS => ?_)
        rcases hw with ⟨rfl, hp_26⟩ | ⟨rfl, hp_27⟩
        · have hP := fz_keep hP hk1
          generalize H1 = H at hP hS ⊢
          have hP : va_P (dC, dI) vwCl [(h0, .inl (cI, 4, .inl (upd (upd (upd (upd (fun _ => 0) (0 : Int32).toNatClampNeg p0) (1 : Int32).toNatClampNeg p1) (2 : Int32).toNatClampNeg p2) (3 : Int32).toNatClampNeg p3)))] H := hP
          refine W.widen (k := 0) (n := 0) (Nat.le_of_ble_eq_true rfl) (Nat.le_of_ble_eq_true rfl) ?_
          refine lv_iand hx hb dX11_isJoint_55 ?_
          refine lv_topi (fun z_9 e_9 => ?_)
          obtain rfl : 0 = z_9 := (e_9.trans (by decide)).symm
          refine lv_istore_n (lv' := [(1, .int 0), (5, .int p2), (4, .int 2), (3, .int 4), (2, .ref h0), (0, .ref h0)]) hx hb dX11_isJoint_56 rfl hl (by decide) rfl (fun ls hl => ?_)
          refine lv_iinc (v := 3) (lv' := [(4, .int 3), (1, .int 0), (5, .int p2), (3, .int 4), (2, .ref h0), (0, .ref h0)]) hx hb dX11_isJoint_57 hl (k := 2) rfl (by decide) (by decide) rfl (fun ls hl => ?_)
          refine lv_goto (tgt := 32) hx hb dX11_isJoint_60 (by decide) ?_
          refine lv_iload hx hb dX11_isJoint_32 (lv_at hl 0 rfl) ?_
          refine lv_iload_n hx hb dX11_isJoint_34 rfl (lv_at hl 3 rfl) ?_
          refine lv_icmp_ge (tgt := 63) hx hb dX11_isJoint_35 (by decide) (fun c_9 => absurd c_9 (by decide)) (fun _ => ?_)
          refine lv_aload_n hx hb dX11_isJoint_38 rfl (lv_at hl 4 rfl) ?_
          refine lv_iload hx hb dX11_isJoint_39 (lv_at hl 0 rfl) ?_
          refine va_iald hx hb hK hP 0 0 rfl rfl (fz_il (by decide)) dX11_isJoint_41 ?_
          refine lv_topi (fun z_9 e_9 => ?_)
          obtain rfl : p3 = z_9 := (e_9.trans (by first | rfl | simp [upd])).symm
          refine lv_istore (lv' := [(5, .int p3), (4, .int 3), (1, .int 0), (3, .int 4), (2, .ref h0), (0, .ref h0)]) hx hb dX11_isJoint_42 hl (by decide) rfl (fun ls hl => ?_)
          refine lv_iload_n hx hb dX11_isJoint_44 rfl (lv_at hl 2 rfl) ?_
          refine lv_iload hx hb dX11_isJoint_45 (lv_at hl 0 rfl) ?_
          refine lv_i2l (v := p3.toInt64) hx hb dX11_isJoint_47 rfl ?_
          refine lv_lconst (v := (0 : Int32).toInt64) hx hb dX11_isJoint_48 (by decide) ?_
          refine lv_ldc2 (v := 20) hx hb hown (hts _ (List.mem_cons_of_mem _ (List.mem_append_left _ (List.mem_of_getElem? (i := 0) rfl)))) dX11_isJoint_49 ?_
          refine lv_topl (fun z_9 e_9 => ?_)
          obtain rfl : (20 : Int32).toInt64 = z_9 := (e_9.trans (by decide)).symm
          have hPc := hP.sub (ws' := []) [] rfl
          have hDc := hD.sub (ws' := []) [] (by decide) rfl
          have hKc := hK.sub (tys' := []) [] rfl
          have hFc : ∀ q : Nat, H.size ≤ q → A q := fun q h => hA q (Nat.le_trans hS.1 h)
          refine va_calli (va_runS (As := [.long p3.toInt64, .long ((0 : Int32).toInt64), .long ((20 : Int32).toInt64)]) (rest := [.int 0]) ⟨hx, hb, hml, hown, hts⟩ (c_X11_isIn l dC dI e0 p3 0 20 H.size) (cwS 3 hts (goodIn_sub (fun _ h9 => List.mem_cons_of_mem _ (List.mem_append_right _ (h9))) (by decide +kernel)) rfl rfl rfl (by decide +kernel) ⟨(Nat.le_of_ble_eq_true rfl), (Nat.le_of_ble_eq_true rfl)⟩) ⟨fz_blind, fz_pre hPc hKc hDc hAm hS hFc⟩ rfl rfl hl.1 rfl (lv_room (Nat.le_of_ble_eq_true rfl)) dX11_isJoint_52 ⟨(Nat.le_of_ble_eq_true rfl), (Nat.le_of_ble_eq_true rfl)⟩) hS (fun q _ h => hFc q h) hFc (fun r u t H1 locs ht hvm hw hB hz1 hk1 hS => ?_)
          rcases hw with ⟨rfl, hp_28⟩ | ⟨rfl, hp_29⟩
          · have hP := fz_keep hP hk1
            generalize H1 = H at hP hS ⊢
            have hP : va_P (dC, dI) vwCl [(h0, .inl (cI, 4, .inl (upd (upd (upd (upd (fun _ => 0) (0 : Int32).toNatClampNeg p0) (1 : Int32).toNatClampNeg p1) (2 : Int32).toNatClampNeg p2) (3 : Int32).toNatClampNeg p3)))] H := hP
            refine W.widen (k := 0) (n := 0) (Nat.le_of_ble_eq_true rfl) (Nat.le_of_ble_eq_true rfl) ?_
            refine lv_iand hx hb dX11_isJoint_55 ?_
            refine lv_topi (fun z_9 e_9 => ?_)
            obtain rfl : 0 = z_9 := (e_9.trans (by decide)).symm
            refine lv_istore_n (lv' := [(1, .int 0), (5, .int p3), (4, .int 3), (3, .int 4), (2, .ref h0), (0, .ref h0)]) hx hb dX11_isJoint_56 rfl hl (by decide) rfl (fun ls hl => ?_)
            refine lv_iinc (v := 4) (lv' := [(4, .int 4), (1, .int 0), (5, .int p3), (3, .int 4), (2, .ref h0), (0, .ref h0)]) hx hb dX11_isJoint_57 hl (k := 2) rfl (by decide) (by decide) rfl (fun ls hl => ?_)
            refine lv_goto (tgt := 32) hx hb dX11_isJoint_60 (by decide) ?_
            refine lv_iload hx hb dX11_isJoint_32 (lv_at hl 0 rfl) ?_
            refine lv_iload_n hx hb dX11_isJoint_34 rfl (lv_at hl 3 rfl) ?_
            refine lv_icmp_ge (tgt := 63) hx hb dX11_isJoint_35 (by decide) (fun _ => ?_) (fun c_9 => absurd (by decide) c_9)
            refine lv_iload_n hx hb dX11_isJoint_63 rfl (lv_at hl 1 rfl) ?_
            refine W.widen (k := 0) (n := 0) (Nat.le_of_ble_eq_true rfl) (Nat.le_of_ble_eq_true rfl) ?_
            exact W.zret (v := 0) hx hb hr rfl (fun t ht hW => ⟨⟨0, (), rfl, Or.inr (⟨rfl, (q_c_X11_isJoint_12 c_1 hp_3 hp_19 hp_26 hp_28)⟩), trivial⟩, hS.F ht⟩) hS.2.2 dX11_isJoint_64
          · have hP := fz_keep hP hk1
            generalize H1 = H at hP hS ⊢
            have hP : va_P (dC, dI) vwCl [(h0, .inl (cI, 4, .inl (upd (upd (upd (upd (fun _ => 0) (0 : Int32).toNatClampNeg p0) (1 : Int32).toNatClampNeg p1) (2 : Int32).toNatClampNeg p2) (3 : Int32).toNatClampNeg p3)))] H := hP
            refine W.widen (k := 0) (n := 0) (Nat.le_of_ble_eq_true rfl) (Nat.le_of_ble_eq_true rfl) ?_
            refine lv_iand hx hb dX11_isJoint_55 ?_
            refine lv_topi (fun z_9 e_9 => ?_)
            obtain rfl : 0 = z_9 := (e_9.trans (by decide)).symm
            refine lv_istore_n (lv' := [(1, .int 0), (5, .int p3), (4, .int 3), (3, .int 4), (2, .ref h0), (0, .ref h0)]) hx hb dX11_isJoint_56 rfl hl (by decide) rfl (fun ls hl => ?_)
            refine lv_iinc (v := 4) (lv' := [(4, .int 4), (1, .int 0), (5, .int p3), (3, .int 4), (2, .ref h0), (0, .ref h0)]) hx hb dX11_isJoint_57 hl (k := 2) rfl (by decide) (by decide) rfl (fun ls hl => ?_)
            refine lv_goto (tgt := 32) hx hb dX11_isJoint_60 (by decide) ?_
            refine lv_iload hx hb dX11_isJoint_32 (lv_at hl 0 rfl) ?_
            refine lv_iload_n hx hb dX11_isJoint_34 rfl (lv_at hl 3 rfl) ?_
            refine lv_icmp_ge (tgt := 63) hx hb dX11_isJoint_35 (by decide) (fun _ => ?_) (fun c_9 => absurd (by decide) c_9)
            refine lv_iload_n hx hb dX11_isJoint_63 rfl (lv_at hl 1 rfl) ?_
            refine W.widen (k := 0) (n := 0) (Nat.le_of_ble_eq_true rfl) (Nat.le_of_ble_eq_true rfl) ?_
            exact W.zret (v := 0) hx hb hr rfl (fun t ht hW => ⟨⟨0, (), rfl, Or.inr (⟨rfl, (q_c_X11_isJoint_13 c_1 hp_3 hp_19 hp_26 hp_29)⟩), trivial⟩, hS.F ht⟩) hS.2.2 dX11_isJoint_64
        · have hP := fz_keep hP hk1
          generalize H1 = H at hP hS ⊢
          have hP : va_P (dC, dI) vwCl [(h0, .inl (cI, 4, .inl (upd (upd (upd (upd (fun _ => 0) (0 : Int32).toNatClampNeg p0) (1 : Int32).toNatClampNeg p1) (2 : Int32).toNatClampNeg p2) (3 : Int32).toNatClampNeg p3)))] H := hP
          refine W.widen (k := 0) (n := 0) (Nat.le_of_ble_eq_true rfl) (Nat.le_of_ble_eq_true rfl) ?_
          refine lv_iand hx hb dX11_isJoint_55 ?_
          refine lv_topi (fun z_9 e_9 => ?_)
          obtain rfl : 0 = z_9 := (e_9.trans (by decide)).symm
          refine lv_istore_n (lv' := [(1, .int 0), (5, .int p2), (4, .int 2), (3, .int 4), (2, .ref h0), (0, .ref h0)]) hx hb dX11_isJoint_56 rfl hl (by decide) rfl (fun ls hl => ?_)
          refine lv_iinc (v := 3) (lv' := [(4, .int 3), (1, .int 0), (5, .int p2), (3, .int 4), (2, .ref h0), (0, .ref h0)]) hx hb dX11_isJoint_57 hl (k := 2) rfl (by decide) (by decide) rfl (fun ls hl => ?_)
          refine lv_goto (tgt := 32) hx hb dX11_isJoint_60 (by decide) ?_
          refine lv_iload hx hb dX11_isJoint_32 (lv_at hl 0 rfl) ?_
          refine lv_iload_n hx hb dX11_isJoint_34 rfl (lv_at hl 3 rfl) ?_
          refine lv_icmp_ge (tgt := 63) hx hb dX11_isJoint_35 (by decide) (fun c_9 => absurd c_9 (by decide)) (fun _ => ?_)
          refine lv_aload_n hx hb dX11_isJoint_38 rfl (lv_at hl 4 rfl) ?_
          refine lv_iload hx hb dX11_isJoint_39 (lv_at hl 0 rfl) ?_
          refine va_iald hx hb hK hP 0 0 rfl rfl (fz_il (by decide)) dX11_isJoint_41 ?_
          refine lv_topi (fun z_9 e_9 => ?_)
          obtain rfl : p3 = z_9 := (e_9.trans (by first | rfl | simp [upd])).symm
          refine lv_istore (lv' := [(5, .int p3), (4, .int 3), (1, .int 0), (3, .int 4), (2, .ref h0), (0, .ref h0)]) hx hb dX11_isJoint_42 hl (by decide) rfl (fun ls hl => ?_)
          refine lv_iload_n hx hb dX11_isJoint_44 rfl (lv_at hl 2 rfl) ?_
          refine lv_iload hx hb dX11_isJoint_45 (lv_at hl 0 rfl) ?_
          refine lv_i2l (v := p3.toInt64) hx hb dX11_isJoint_47 rfl ?_
          refine lv_lconst (v := (0 : Int32).toInt64) hx hb dX11_isJoint_48 (by decide) ?_
          refine lv_ldc2 (v := 20) hx hb hown (hts _ (List.mem_cons_of_mem _ (List.mem_append_left _ (List.mem_of_getElem? (i := 0) rfl)))) dX11_isJoint_49 ?_
          refine lv_topl (fun z_9 e_9 => ?_)
          obtain rfl : (20 : Int32).toInt64 = z_9 := (e_9.trans (by decide)).symm
          have hPc := hP.sub (ws' := []) [] rfl
          have hDc := hD.sub (ws' := []) [] (by decide) rfl
          have hKc := hK.sub (tys' := []) [] rfl
          have hFc : ∀ q : Nat, H.size ≤ q → A q := fun q h => hA q (Nat.le_trans hS.1 h)
          refine va_calli (va_runS (As := [.long p3.toInt64, .long ((0 : Int32).toInt64), .long ((20 : Int32).toInt64)]) (rest := [.int 0]) ⟨hx, hb, hml, hown, hts⟩ (c_X11_isIn l dC dI e0 p3 0 20 H.size) (cwS 3 hts (goodIn_sub (fun _ h9 => List.mem_cons_of_mem _ (List.mem_append_right _ (h9))) (by decide +kernel)) rfl rfl rfl (by decide +kernel) ⟨(Nat.le_of_ble_eq_true rfl), (Nat.le_of_ble_eq_true rfl)⟩) ⟨fz_blind, fz_pre hPc hKc hDc hAm hS hFc⟩ rfl rfl hl.1 rfl (lv_room (Nat.le_of_ble_eq_true rfl)) dX11_isJoint_52 ⟨(Nat.le_of_ble_eq_true rfl), (Nat.le_of_ble_eq_true rfl)⟩) hS (fun q _ h => hFc q h) hFc (fun r u t H1 locs ht hvm hw hB hz1 hk1 hS => ?_)
          rcases hw with ⟨rfl, hp_30⟩ | ⟨rfl, hp_31⟩
          · have hP := fz_keep hP hk1
            generalize H1 = H at hP hS ⊢
            have hP : va_P (dC, dI) vwCl [(h0, .inl (cI, 4, .inl (upd (upd (upd (upd (fun _ => 0) (0 : Int32).toNatClampNeg p0) (1 : Int32).toNatClampNeg p1) (2 : Int32).toNatClampNeg p2) (3 : Int32).toNatClampNeg p3)))] H := hP
            refine W.widen (k := 0) (n := 0) (Nat.le_of_ble_eq_true rfl) (Nat.le_of_ble_eq_true rfl) ?_
            refine lv_iand hx hb dX11_isJoint_55 ?_
            refine lv_topi (fun z_9 e_9 => ?_)
            obtain rfl : 0 = z_9 := (e_9.trans (by decide)).symm
            refine lv_istore_n (lv' := [(1, .int 0), (5, .int p3), (4, .int 3), (3, .int 4), (2, .ref h0), (0, .ref h0)]) hx hb dX11_isJoint_56 rfl hl (by decide) rfl (fun ls hl => ?_)
            refine lv_iinc (v := 4) (lv' := [(4, .int 4), (1, .int 0), (5, .int p3), (3, .int 4), (2, .ref h0), (0, .ref h0)]) hx hb dX11_isJoint_57 hl (k := 2) rfl (by decide) (by decide) rfl (fun ls hl => ?_)
            refine lv_goto (tgt := 32) hx hb dX11_isJoint_60 (by decide) ?_
            refine lv_iload hx hb dX11_isJoint_32 (lv_at hl 0 rfl) ?_
            refine lv_iload_n hx hb dX11_isJoint_34 rfl (lv_at hl 3 rfl) ?_
            refine lv_icmp_ge (tgt := 63) hx hb dX11_isJoint_35 (by decide) (fun _ => ?_) (fun c_9 => absurd (by decide) c_9)
            refine lv_iload_n hx hb dX11_isJoint_63 rfl (lv_at hl 1 rfl) ?_
            refine W.widen (k := 0) (n := 0) (Nat.le_of_ble_eq_true rfl) (Nat.le_of_ble_eq_true rfl) ?_
            exact W.zret (v := 0) hx hb hr rfl (fun t ht hW => ⟨⟨0, (), rfl, Or.inr (⟨rfl, (q_c_X11_isJoint_14 c_1 hp_3 hp_19 hp_27 hp_30)⟩), trivial⟩, hS.F ht⟩) hS.2.2 dX11_isJoint_64
          · have hP := fz_keep hP hk1
            generalize H1 = H at hP hS ⊢
            have hP : va_P (dC, dI) vwCl [(h0, .inl (cI, 4, .inl (upd (upd (upd (upd (fun _ => 0) (0 : Int32).toNatClampNeg p0) (1 : Int32).toNatClampNeg p1) (2 : Int32).toNatClampNeg p2) (3 : Int32).toNatClampNeg p3)))] H := hP
            refine W.widen (k := 0) (n := 0) (Nat.le_of_ble_eq_true rfl) (Nat.le_of_ble_eq_true rfl) ?_
            refine lv_iand hx hb dX11_isJoint_55 ?_
            refine lv_topi (fun z_9 e_9 => ?_)
            obtain rfl : 0 = z_9 := (e_9.trans (by decide)).symm
            refine lv_istore_n (lv' := [(1, .int 0), (5, .int p3), (4, .int 3), (3, .int 4), (2, .ref h0), (0, .ref h0)]) hx hb dX11_isJoint_56 rfl hl (by decide) rfl (fun ls hl => ?_)
            refine lv_iinc (v := 4) (lv' := [(4, .int 4), (1, .int 0), (5, .int p3), (3, .int 4), (2, .ref h0), (0, .ref h0)]) hx hb dX11_isJoint_57 hl (k := 2) rfl (by decide) (by decide) rfl (fun ls hl => ?_)
            refine lv_goto (tgt := 32) hx hb dX11_isJoint_60 (by decide) ?_
            refine lv_iload hx hb dX11_isJoint_32 (lv_at hl 0 rfl) ?_
            refine lv_iload_n hx hb dX11_isJoint_34 rfl (lv_at hl 3 rfl) ?_
            refine lv_icmp_ge (tgt := 63) hx hb dX11_isJoint_35 (by decide) (fun _ => ?_) (fun c_9 => absurd (by decide) c_9)
            refine lv_iload_n hx hb dX11_isJoint_63 rfl (lv_at hl 1 rfl) ?_
            refine W.widen (k := 0) (n := 0) (Nat.le_of_ble_eq_true rfl) (Nat.le_of_ble_eq_true rfl) ?_
            exact W.zret (v := 0) hx hb hr rfl (fun t ht hW => ⟨⟨0, (), rfl, Or.inr (⟨rfl, (q_c_X11_isJoint_15 c_1 hp_3 hp_19 hp_27 hp_31)⟩), trivial⟩, hS.F ht⟩) hS.2.2 dX11_isJoint_64
  · refine lv_aload_n hx hb dX11_isJoint_9 rfl (lv_at hl 0 rfl) ?_
    refine lv_iconst (v := 1) hx hb dX11_isJoint_10 (by decide) ?_
    refine va_iald hx hb hK hP 0 0 rfl rfl (fz_il (by decide)) dX11_isJoint_11 ?_
    refine lv_topi (fun z_9 e_9 => ?_)
    obtain rfl : p1 = z_9 := (e_9.trans (by first | rfl | simp [upd])).symm
    refine lv_aload_n hx hb dX11_isJoint_12 rfl (lv_at hl 0 rfl) ?_
    refine lv_iconst (v := 3) hx hb dX11_isJoint_13 (by decide) ?_
    refine va_iald hx hb hK hP 0 0 rfl rfl (fz_il (by decide)) dX11_isJoint_14 ?_
    refine lv_topi (fun z_9 e_9 => ?_)
    obtain rfl : p3 = z_9 := (e_9.trans (by first | rfl | simp [upd])).symm
    refine lv_icmp_eq (tgt := 22) hx hb dX11_isJoint_15 (by decide) (fun c_32 => ?_) (fun c_32 => ?_)
    · refine lv_iconst (v := 0) hx hb dX11_isJoint_22 (by decide) ?_
      refine lv_istore_n (lv' := [(1, .int 0), (0, .ref h0)]) hx hb dX11_isJoint_23 rfl hl (by decide) rfl (fun ls hl => ?_)
      refine lv_aload_n hx hb dX11_isJoint_24 rfl (lv_at hl 1 rfl) ?_
      refine lv_astore_n (lv' := [(2, .ref h0), (1, .int 0), (0, .ref h0)]) hx hb dX11_isJoint_25 rfl hl (by decide) rfl (fun ls hl => ?_)
      refine lv_aload_n hx hb dX11_isJoint_26 rfl (lv_at hl 0 rfl) ?_
      refine va_alen hx hb hK hP 0 0 rfl rfl (v := 4) rfl dX11_isJoint_27 ?_
      refine lv_istore_n (lv' := [(3, .int 4), (2, .ref h0), (1, .int 0), (0, .ref h0)]) hx hb dX11_isJoint_28 rfl hl (by decide) rfl (fun ls hl => ?_)
      refine lv_iconst (v := 0) hx hb dX11_isJoint_29 (by decide) ?_
      refine lv_istore (lv' := [(4, .int 0), (3, .int 4), (2, .ref h0), (1, .int 0), (0, .ref h0)]) hx hb dX11_isJoint_30 hl (by decide) rfl (fun ls hl => ?_)
      refine lv_iload hx hb dX11_isJoint_32 (lv_at hl 0 rfl) ?_
      refine lv_iload_n hx hb dX11_isJoint_34 rfl (lv_at hl 1 rfl) ?_
      refine lv_icmp_ge (tgt := 63) hx hb dX11_isJoint_35 (by decide) (fun c_9 => absurd c_9 (by decide)) (fun _ => ?_)
      refine lv_aload_n hx hb dX11_isJoint_38 rfl (lv_at hl 2 rfl) ?_
      refine lv_iload hx hb dX11_isJoint_39 (lv_at hl 0 rfl) ?_
      refine va_iald hx hb hK hP 0 0 rfl rfl (fz_il (by decide)) dX11_isJoint_41 ?_
      refine lv_topi (fun z_9 e_9 => ?_)
      obtain rfl : p0 = z_9 := (e_9.trans (by first | rfl | simp [upd])).symm
      refine lv_istore (lv' := [(5, .int p0), (4, .int 0), (3, .int 4), (2, .ref h0), (1, .int 0), (0, .ref h0)]) hx hb dX11_isJoint_42 hl (by decide) rfl (fun ls hl => ?_)
      refine lv_iload_n hx hb dX11_isJoint_44 rfl (lv_at hl 4 rfl) ?_
      refine lv_iload hx hb dX11_isJoint_45 (lv_at hl 0 rfl) ?_
      refine lv_i2l (v := p0.toInt64) hx hb dX11_isJoint_47 rfl ?_
      refine lv_lconst (v := (0 : Int32).toInt64) hx hb dX11_isJoint_48 (by decide) ?_
      refine lv_ldc2 (v := 20) hx hb hown (hts _ (List.mem_cons_of_mem _ (List.mem_append_left _ (List.mem_of_getElem? (i := 0) rfl)))) dX11_isJoint_49 ?_
      refine lv_topl (fun z_9 e_9 => ?_)
      obtain rfl : (20 : Int32).toInt64 = z_9 := (e_9.trans (by decide)).symm
      have hPc := hP.sub (ws' := []) [] rfl
      have hDc := hD.sub (ws' := []) [] (by decide) rfl
      have hKc := hK.sub (tys' := []) [] rfl
      have hFc : ∀ q : Nat, s.heap.size ≤ q → A q := fun q h => hA q (Nat.le_trans hS.1 h)
      refine va_calli (va_runS (As := [.long p0.toInt64, .long ((0 : Int32).toInt64), .long ((20 : Int32).toInt64)]) (rest := [.int 0]) ⟨hx, hb, hml, hown, hts⟩ (c_X11_isIn l dC dI e0 p0 0 20 s.heap.size) (cwS 3 hts (goodIn_sub (fun _ h9 => List.mem_cons_of_mem _ (List.mem_append_right _ (h9))) (by decide +kernel)) rfl rfl rfl (by decide +kernel) ⟨(Nat.le_of_ble_eq_true rfl), (Nat.le_of_ble_eq_true rfl)⟩) ⟨fz_blind, fz_pre hPc hKc hDc hAm hS hFc⟩ rfl rfl hl.1 rfl (lv_room (Nat.le_of_ble_eq_true rfl)) dX11_isJoint_52 ⟨(Nat.le_of_ble_eq_true rfl), (Nat.le_of_ble_eq_true rfl)⟩) hS (fun q _ h => hFc q h) hFc (fun r u t H1 locs ht hvm hw hB hz1 hk1 hS => ?_)
      rcases hw with ⟨rfl, hp_33⟩ | ⟨rfl, hp_34⟩
      · have hP := fz_keep hP hk1
        generalize H1 = H at hP hS ⊢
        have hP : va_P (dC, dI) vwCl [(h0, .inl (cI, 4, .inl (upd (upd (upd (upd (fun _ => 0) (0 : Int32).toNatClampNeg p0) (1 : Int32).toNatClampNeg p1) (2 : Int32).toNatClampNeg p2) (3 : Int32).toNatClampNeg p3)))] H := hP
        refine W.widen (k := 0) (n := 0) (Nat.le_of_ble_eq_true rfl) (Nat.le_of_ble_eq_true rfl) ?_
        refine lv_iand hx hb dX11_isJoint_55 ?_
        refine lv_topi (fun z_9 e_9 => ?_)
        obtain rfl : 0 = z_9 := (e_9.trans (by decide)).symm
        refine lv_istore_n (lv' := [(1, .int 0), (5, .int p0), (4, .int 0), (3, .int 4), (2, .ref h0), (0, .ref h0)]) hx hb dX11_isJoint_56 rfl hl (by decide) rfl (fun ls hl => ?_)
        refine lv_iinc (v := 1) (lv' := [(4, .int 1), (1, .int 0), (5, .int p0), (3, .int 4), (2, .ref h0), (0, .ref h0)]) hx hb dX11_isJoint_57 hl (k := 2) rfl (by decide) (by decide) rfl (fun ls hl => ?_)
        refine lv_goto (tgt := 32) hx hb dX11_isJoint_60 (by decide) ?_
        refine lv_iload hx hb dX11_isJoint_32 (lv_at hl 0 rfl) ?_
        refine lv_iload_n hx hb dX11_isJoint_34 rfl (lv_at hl 3 rfl) ?_
        refine lv_icmp_ge (tgt := 63) hx hb dX11_isJoint_35 (by decide) (fun c_9 => absurd c_9 (by decide)) (fun _ => ?_)
        refine lv_aload_n hx hb dX11_isJoint_38 rfl (lv_at hl 4 rfl) ?_
        refine lv_iload hx hb dX11_isJoint_39 (lv_at hl 0 rfl) ?_
        refine va_iald hx hb hK hP 0 0 rfl rfl (fz_il (by decide)) dX11_isJoint_41 ?_
        refine lv_topi (fun z_9 e_9 => ?_)
        obtain rfl : p1 = z_9 := (e_9.trans (by first | rfl | simp [upd])).symm
        refine lv_istore (lv' := [(5, .int p1), (4, .int 1), (1, .int 0), (3, .int 4), (2, .ref h0), (0, .ref h0)]) hx hb dX11_isJoint_42 hl (by decide) rfl (fun ls hl => ?_)
        refine lv_iload_n hx hb dX11_isJoint_44 rfl (lv_at hl 2 rfl) ?_
        refine lv_iload hx hb dX11_isJoint_45 (lv_at hl 0 rfl) ?_
        refine lv_i2l (v := p1.toInt64) hx hb dX11_isJoint_47 rfl ?_
        refine lv_lconst (v := (0 : Int32).toInt64) hx hb dX11_isJoint_48 (by decide) ?_
        refine lv_ldc2 (v := 20) hx hb hown (hts _ (List.mem_cons_of_mem _ (List.mem_append_left _ (List.mem_of_getElem? (i := 0) rfl)))) dX11_isJoint_49 ?_
        refine lv_topl (fun z_9 e_9 => ?_)
        obtain rfl : (20 : Int32).toInt64 = z_9 := (e_9.trans (by decide)).symm
        have hPc := hP.sub (ws' := []) [] rfl
        have hDc := hD.sub (ws' := []) [] (by decide) rfl
        have hKc := hK.sub (tys' := []) [] rfl
        have hFc : ∀ q : Nat, H.size ≤ q → A q := fun q h => hA q (Nat.le_trans hS.1 h)
        refine va_calli (va_runS (As := [.long p1.toInt64, .long ((0 : Int32).toInt64), .long ((20 : Int32).toInt64)]) (rest := [.int 0]) ⟨hx, hb, hml, hown, hts⟩ (c_X11_isIn l dC dI e0 p1 0 20 H.size) (cwS 3 hts (goodIn_sub (fun _ h9 => List.mem_cons_of_mem _ (List.mem_append_right _ (h9))) (by decide +kernel)) rfl rfl rfl (by decide +kernel) ⟨(Nat.le_of_ble_eq_true rfl), (Nat.le_of_ble_eq_true rfl)⟩) ⟨fz_blind, fz_pre hPc hKc hDc hAm hS hFc⟩ rfl rfl hl.1 rfl (lv_room (Nat.le_of_ble_eq_true rfl)) dX11_isJoint_52 ⟨(Nat.le_of_ble_eq_true rfl), (Nat.le_of_ble_eq_true rfl)⟩) hS (fun q _ h => hFc q h) hFc (fun r u t H1 locs ht hvm hw hB hz1 hk1 hS => ?_)
        rcases hw with ⟨rfl, hp_35⟩ | ⟨rfl, hp_36⟩
        · have hP := fz_keep hP hk1
          generalize H1 = H at hP hS ⊢
          have hP : va_P (dC, dI) vwCl [(h0, .inl (cI, 4, .inl (upd (upd (upd (upd (fun _ => 0) (0 : Int32).toNatClampNeg p0) (1 : Int32).toNatClampNeg p1) (2 : Int32).toNatClampNeg p2) (3 : Int32).toNatClampNeg p3)))] H := hP
          refine W.widen (k := 0) (n := 0) (Nat.le_of_ble_eq_true rfl) (Nat.le_of_ble_eq_true rfl) ?_
          refine lv_iand hx hb dX11_isJoint_55 ?_
          refine lv_topi (fun z_9 e_9 => ?_)
          obtain rfl : 0 = z_9 := (e_9.trans (by decide)).symm
          refine lv_istore_n (lv' := [(1, .int 0), (5, .int p1), (4, .int 1), (3, .int 4), (2, .ref h0), (0, .ref h0)]) hx hb dX11_isJoint_56 rfl hl (by decide) rfl (fun ls hl => ?_)
          refine lv_iinc (v := 2) (lv' := [(4, .int 2), (1, .int 0), (5, .int p1), (3, .int 4), (2, .ref h0), (0, .ref h0)]) hx hb dX11_isJoint_57 hl (k := 2) rfl (by decide) (by decide) rfl (fun ls hl => ?_)
          refine lv_goto (tgt := 32) hx hb dX11_isJoint_60 (by decide) ?_
          refine lv_iload hx hb dX11_isJoint_32 (lv_at hl 0 rfl) ?_
          refine lv_iload_n hx hb dX11_isJoint_34 rfl (lv_at hl 3 rfl) ?_
          refine lv_icmp_ge (tgt := 63) hx hb dX11_isJoint_35 (by decide) (fun c_9 => absurd c_9 (by decide)) (fun _ => ?_)
          refine lv_aload_n hx hb dX11_isJoint_38 rfl (lv_at hl 4 rfl) ?_
          refine lv_iload hx hb dX11_isJoint_39 (lv_at hl 0 rfl) ?_
          refine va_iald hx hb hK hP 0 0 rfl rfl (fz_il (by decide)) dX11_isJoint_41 ?_
          refine lv_topi (fun z_9 e_9 => ?_)
          obtain rfl : p2 = z_9 := (e_9.trans (by first | rfl | simp [upd])).symm
          refine lv_istore (lv' := [(5, .int p2), (4, .int 2), (1, .int 0), (3, .int 4), (2, .ref h0), (0, .ref h0)]) hx hb dX11_isJoint_42 hl (by decide) rfl (fun ls hl => ?_)
          refine lv_iload_n hx hb dX11_isJoint_44 rfl (lv_at hl 2 rfl) ?_
          refine lv_iload hx hb dX11_isJoint_45 (lv_at hl 0 rfl) ?_
          refine lv_i2l (v := p2.toInt64) hx hb dX11_isJoint_47 rfl ?_
          refine lv_lconst (v := (0 : Int32).toInt64) hx hb dX11_isJoint_48 (by decide) ?_
          refine lv_ldc2 (v := 20) hx hb hown (hts _ (List.mem_cons_of_mem _ (List.mem_append_left _ (List.mem_of_getElem? (i := 0) rfl)))) dX11_isJoint_49 ?_
          refine lv_topl (fun z_9 e_9 => ?_)
          obtain rfl : (20 : Int32).toInt64 = z_9 := (e_9.trans (by decide)).symm
          have hPc := hP.sub (ws' := []) [] rfl
          have hDc := hD.sub (ws' := []) [] (by decide) rfl
          have hKc := hK.sub (tys' := []) [] rfl
          have hFc : ∀ q : Nat, H.size ≤ q → A q := fun q h => hA q (Nat.le_trans hS.1 h)
          refine va_calli (va_runS (As := [.long p2.toInt64, .long ((0 : Int32).toInt64), .long ((20 : Int32).toInt64)]) (rest := [.int 0]) ⟨hx, hb, hml, hown, hts⟩ (c_X11_isIn l dC dI e0 p2 0 20 H.size) (cwS 3 hts (goodIn_sub (fun _ h9 => List.mem_cons_of_mem _ (List.mem_append_right _ (h9))) (by decide +kernel)) rfl rfl rfl (by decide +kernel) ⟨(Nat.le_of_ble_eq_true rfl), (Nat.le_of_ble_eq_true rfl)⟩) ⟨fz_blind, fz_pre hPc hKc hDc hAm hS hFc⟩ rfl rfl hl.1 rfl (lv_room (Nat.le_of_ble_eq_true rfl)) dX11_isJoint_52 ⟨(Nat.le_of_ble_eq_true rfl), (Nat.le_of_ble_eq_true rfl)⟩) hS (fun q _ h => hFc q h) hFc (fun r u t H1 locs ht hvm hw hB hz1 hk1 hS => ?_)
          rcases hw with ⟨rfl, hp_37⟩ | ⟨rfl, hp_38⟩
          · have hP := fz_keep hP hk1
            generalize H1 = H at hP hS ⊢
            have hP : va_P (dC, dI) vwCl [(h0, .inl (cI, 4, .inl (upd (upd (upd (upd (fun _ => 0) (0 : Int32).toNatClampNeg p0) (1 : Int32).toNatClampNeg p1) (2 : Int32).toNatClampNeg p2) (3 : Int32).toNatClampNeg p3)))] H := hP
            refine W.widen (k := 0) (n := 0) (Nat.le_of_ble_eq_true rfl) (Nat.le_of_ble_eq_true rfl) ?_
            refine lv_iand hx hb dX11_isJoint_55 ?_
            refine lv_topi (fun z_9 e_9 => ?_)
            obtain rfl : 0 = z_9 := (e_9.trans (by decide)).symm
            refine lv_istore_n (lv' := [(1, .int 0), (5, .int p2), (4, .int 2), (3, .int 4), (2, .ref h0), (0, .ref h0)]) hx hb dX11_isJoint_56 rfl hl (by decide) rfl (fun ls hl => ?_)
            refine lv_iinc (v := 3) (lv' := [(4, .int 3), (1, .int 0), (5, .int p2), (3, .int 4), (2, .ref h0), (0, .ref h0)]) hx hb dX11_isJoint_57 hl (k := 2) rfl (by decide) (by decide) rfl (fun ls hl => ?_)
            refine lv_goto (tgt := 32) hx hb dX11_isJoint_60 (by decide) ?_
            refine lv_iload hx hb dX11_isJoint_32 (lv_at hl 0 rfl) ?_
            refine lv_iload_n hx hb dX11_isJoint_34 rfl (lv_at hl 3 rfl) ?_
            refine lv_icmp_ge (tgt := 63) hx hb dX11_isJoint_35 (by decide) (fun c_9 => absurd c_9 (by decide)) (fun _ => ?_)
            refine lv_aload_n hx hb dX11_isJoint_38 rfl (lv_at hl 4 rfl) ?_
            refine lv_iload hx hb dX11_isJoint_39 (lv_at hl 0 rfl) ?_
            refine va_iald hx hb hK hP 0 0 rfl rfl (fz_il (by decide)) dX11_isJoint_41 ?_
            refine lv_topi (fun z_9 e_9 => ?_)
            obtain rfl : p3 = z_9 := (e_9.trans (by first | rfl | simp [upd])).symm
            refine lv_istore (lv' := [(5, .int p3), (4, .int 3), (1, .int 0), (3, .int 4), (2, .ref h0), (0, .ref h0)]) hx hb dX11_isJoint_42 hl (by decide) rfl (fun ls hl => ?_)
            refine lv_iload_n hx hb dX11_isJoint_44 rfl (lv_at hl 2 rfl) ?_
            refine lv_iload hx hb dX11_isJoint_45 (lv_at hl 0 rfl) ?_
            refine lv_i2l (v := p3.toInt64) hx hb dX11_isJoint_47 rfl ?_
            refine lv_lconst (v := (0 : Int32).toInt64) hx hb dX11_isJoint_48 (by decide) ?_
            refine lv_ldc2 (v := 20) hx hb hown (hts _ (List.mem_cons_of_mem _ (List.mem_append_left _ (List.mem_of_getElem? (i := 0) rfl)))) dX11_isJoint_49 ?_
            refine lv_topl (fun z_9 e_9 => ?_)
            obtain rfl : (20 : Int32).toInt64 = z_9 := (e_9.trans (by decide)).symm
            have hPc := hP.sub (ws' := []) [] rfl
            have hDc := hD.sub (ws' := []) [] (by decide) rfl
            have hKc := hK.sub (tys' := []) [] rfl
            have hFc : ∀ q : Nat, H.size ≤ q → A q := fun q h => hA q (Nat.le_trans hS.1 h)
            refine va_calli (va_runS (As := [.long p3.toInt64, .long ((0 : Int32).toInt64), .long ((20 : Int32).toInt64)]) (rest := [.int 0]) ⟨hx, hb, hml, hown, hts⟩ (c_X11_isIn l dC dI e0 p3 0 20 H.size) (cwS 3 hts (goodIn_sub (fun _ h9 => List.mem_cons_of_mem _ (List.mem_append_right _ (h9))) (by decide +kernel)) rfl rfl rfl (by decide +kernel) ⟨(Nat.le_of_ble_eq_true rfl), (Nat.le_of_ble_eq_true rfl)⟩) ⟨fz_blind, fz_pre hPc hKc hDc hAm hS hFc⟩ rfl rfl hl.1 rfl (lv_room (Nat.le_of_ble_eq_true rfl)) dX11_isJoint_52 ⟨(Nat.le_of_ble_eq_true rfl), (Nat.le_of_ble_eq_true rfl)⟩) hS (fun q _ h => hFc q h) hFc (fun r u t H1 locs ht hvm hw hB hz1 hk1 hS => ?_)
            rcases hw with ⟨rfl, hp_39⟩ | ⟨rfl, hp_40⟩
            · have hP := fz_keep hP hk1
              generalize H1 = H at hP hS ⊢
              have hP : va_P (dC, dI) vwCl [(h0, .inl (cI, 4, .inl (upd (upd (upd (upd (fun _ => 0) (0 : Int32).toNatClampNeg p0) (1 : Int32).toNatClampNeg p1) (2 : Int32).toNatClampNeg p2) (3 : Int32).toNatClampNeg p3)))] H := hP
              refine W.widen (k := 0) (n := 0) (Nat.le_of_ble_eq_true rfl) (Nat.le_of_ble_eq_true rfl) ?_
              refine lv_iand hx hb dX11_isJoint_55 ?_
              refine lv_topi (fun z_9 e_9 => ?_)
              obtain rfl : 0 = z_9 := (e_9.trans (by decide)).symm
              refine lv_istore_n (lv' := [(1, .int 0), (5, .int p3), (4, .int 3), (3, .int 4), (2, .ref h0), (0, .ref h0)]) hx hb dX11_isJoint_56 rfl hl (by decide) rfl (fun ls hl => ?_)
              refine lv_iinc (v := 4) (lv' := [(4, .int 4), (1, .int 0), (5, .int p3), (3, .int 4), (2, .ref h0), (0, .ref h0)]) hx hb dX11_isJoint_57 hl (k := 2) rfl (by decide) (by decide) rfl (fun ls hl => ?_)
              refine lv_goto (tgt := 32) hx hb dX11_isJoint_60 (by decide) ?_
              refine lv_iload hx hb dX11_isJoint_32 (lv_at hl 0 rfl) ?_
              refine lv_iload_n hx hb dX11_isJoint_34 rfl (lv_at hl 3 rfl) ?_
              refine lv_icmp_ge (tgt := 63) hx hb dX11_isJoint_35 (by decide) (fun _ => ?_) (fun c_9 => absurd (by decide) c_9)
              refine lv_iload_n hx hb dX11_isJoint_63 rfl (lv_at hl 1 rfl) ?_
              refine W.widen (k := 0) (n := 0) (Nat.le_of_ble_eq_true rfl) (Nat.le_of_ble_eq_true rfl) ?_
              exact W.zret (v := 0) hx hb hr rfl (fun t ht hW => ⟨⟨0, (), rfl, Or.inr (⟨rfl, (q_c_X11_isJoint_16 c_1 c_32 hp_33 hp_35 hp_37 hp_39)⟩), trivial⟩, hS.F ht⟩) hS.2.2 dX11_isJoint_64
            · have hP := fz_keep hP hk1
              generalize H1 = H at hP hS ⊢
              have hP : va_P (dC, dI) vwCl [(h0, .inl (cI, 4, .inl (upd (upd (upd (upd (fun _ => 0) (0 : Int32).toNatClampNeg p0) (1 : Int32).toNatClampNeg p1) (2 : Int32).toNatClampNeg p2) (3 : Int32).toNatClampNeg p3)))] H := hP
              refine W.widen (k := 0) (n := 0) (Nat.le_of_ble_eq_true rfl) (Nat.le_of_ble_eq_true rfl) ?_
              refine lv_iand hx hb dX11_isJoint_55 ?_
              refine lv_topi (fun z_9 e_9 => ?_)
              obtain rfl : 0 = z_9 := (e_9.trans (by decide)).symm
              refine lv_istore_n (lv' := [(1, .int 0), (5, .int p3), (4, .int 3), (3, .int 4), (2, .ref h0), (0, .ref h0)]) hx hb dX11_isJoint_56 rfl hl (by decide) rfl (fun ls hl => ?_)
              refine lv_iinc (v := 4) (lv' := [(4, .int 4), (1, .int 0), (5, .int p3), (3, .int 4), (2, .ref h0), (0, .ref h0)]) hx hb dX11_isJoint_57 hl (k := 2) rfl (by decide) (by decide) rfl (fun ls hl => ?_)
              refine lv_goto (tgt := 32) hx hb dX11_isJoint_60 (by decide) ?_
              refine lv_iload hx hb dX11_isJoint_32 (lv_at hl 0 rfl) ?_
              refine lv_iload_n hx hb dX11_isJoint_34 rfl (lv_at hl 3 rfl) ?_
              refine lv_icmp_ge (tgt := 63) hx hb dX11_isJoint_35 (by decide) (fun _ => ?_) (fun c_9 => absurd (by decide) c_9)
              refine lv_iload_n hx hb dX11_isJoint_63 rfl (lv_at hl 1 rfl) ?_
              refine W.widen (k := 0) (n := 0) (Nat.le_of_ble_eq_true rfl) (Nat.le_of_ble_eq_true rfl) ?_
              exact W.zret (v := 0) hx hb hr rfl (fun t ht hW => ⟨⟨0, (), rfl, Or.inr (⟨rfl, (q_c_X11_isJoint_17 c_1 c_32 hp_33 hp_35 hp_37 hp_40)⟩), trivial⟩, hS.F ht⟩) hS.2.2 dX11_isJoint_64
          · have hP := fz_keep hP hk1
            generalize H1 = H at hP hS ⊢
            have hP : va_P (dC, dI) vwCl [(h0, .inl (cI, 4, .inl (upd (upd (upd (upd (fun _ => 0) (0 : Int32).toNatClampNeg p0) (1 : Int32).toNatClampNeg p1) (2 : Int32).toNatClampNeg p2) (3 : Int32).toNatClampNeg p3)))] H := hP
            refine W.widen (k := 0) (n := 0) (Nat.le_of_ble_eq_true rfl) (Nat.le_of_ble_eq_true rfl) ?_
            refine lv_iand hx hb dX11_isJoint_55 ?_
            refine lv_topi (fun z_9 e_9 => ?_)
            obtain rfl : 0 = z_9 := (e_9.trans (by decide)).symm
            refine lv_istore_n (lv' := [(1, .int 0), (5, .int p2), (4, .int 2), (3, .int 4), (2, .ref h0), (0, .ref h0)]) hx hb dX11_isJoint_56 rfl hl (by decide) rfl (fun ls hl => ?_)
            refine lv_iinc (v := 3) (lv' := [(4, .int 3), (1, .int 0), (5, .int p2), (3, .int 4), (2, .ref h0), (0, .ref h0)]) hx hb dX11_isJoint_57 hl (k := 2) rfl (by decide) (by decide) rfl (fun ls hl => ?_)
            refine lv_goto (tgt := 32) hx hb dX11_isJoint_60 (by decide) ?_
            refine lv_iload hx hb dX11_isJoint_32 (lv_at hl 0 rfl) ?_
            refine lv_iload_n hx hb dX11_isJoint_34 rfl (lv_at hl 3 rfl) ?_
            refine lv_icmp_ge (tgt := 63) hx hb dX11_isJoint_35 (by decide) (fun c_9 => absurd c_9 (by decide)) (fun _ => ?_)
            refine lv_aload_n hx hb dX11_isJoint_38 rfl (lv_at hl 4 rfl) ?_
            refine lv_iload hx hb dX11_isJoint_39 (lv_at hl 0 rfl) ?_
            refine va_iald hx hb hK hP 0 0 rfl rfl (fz_il (by decide)) dX11_isJoint_41 ?_
            refine lv_topi (fun z_9 e_9 => ?_)
            obtain rfl : p3 = z_9 := (e_9.trans (by first | rfl | simp [upd])).symm
            refine lv_istore (lv' := [(5, .int p3), (4, .int 3), (1, .int 0), (3, .int 4), (2, .ref h0), (0, .ref h0)]) hx hb dX11_isJoint_42 hl (by decide) rfl (fun ls hl => ?_)
            refine lv_iload_n hx hb dX11_isJoint_44 rfl (lv_at hl 2 rfl) ?_
            refine lv_iload hx hb dX11_isJoint_45 (lv_at hl 0 rfl) ?_
            refine lv_i2l (v := p3.toInt64) hx hb dX11_isJoint_47 rfl ?_
            refine lv_lconst (v := (0 : Int32).toInt64) hx hb dX11_isJoint_48 (by decide) ?_
            refine lv_ldc2 (v := 20) hx hb hown (hts _ (List.mem_cons_of_mem _ (List.mem_append_left _ (List.mem_of_getElem? (i := 0) rfl)))) dX11_isJoint_49 ?_
            refine lv_topl (fun z_9 e_9 => ?_)
            obtain rfl : (20 : Int32).toInt64 = z_9 := (e_9.trans (by decide)).symm
            have hPc := hP.sub (ws' := []) [] rfl
            have hDc := hD.sub (ws' := []) [] (by decide) rfl
            have hKc := hK.sub (tys' := []) [] rfl
            have hFc : ∀ q : Nat, H.size ≤ q → A q := fun q h => hA q (Nat.le_trans hS.1 h)
            refine va_calli (va_runS (As := [.long p3.toInt64, .long ((0 : Int32).toInt64), .long ((20 : Int32).toInt64)]) (rest := [.int 0]) ⟨hx, hb, hml, hown, hts⟩ (c_X11_isIn l dC dI e0 p3 0 20 H.size) (cwS 3 hts (goodIn_sub (fun _ h9 => List.mem_cons_of_mem _ (List.mem_append_right _ (h9))) (by decide +kernel)) rfl rfl rfl (by decide +kernel) ⟨(Nat.le_of_ble_eq_true rfl), (Nat.le_of_ble_eq_true rfl)⟩) ⟨fz_blind, fz_pre hPc hKc hDc hAm hS hFc⟩ rfl rfl hl.1 rfl (lv_room (Nat.le_of_ble_eq_true rfl)) dX11_isJoint_52 ⟨(Nat.le_of_ble_eq_true rfl), (Nat.le_of_ble_eq_true rfl)⟩) hS (fun q _ h => hFc q h) hFc (fun r u t H1 locs ht hvm hw hB hz1 hk1 hS => ?_)
            rcases hw with ⟨rfl, hp_41⟩ | ⟨rfl, hp_42⟩
            · have hP := fz_keep hP hk1
              generalize H1 = H at hP hS ⊢
              have hP : va_P (dC, dI) vwCl [(h0, .inl (cI, 4, .inl (upd (upd (upd (upd (fun _ => 0) (0 : Int32).toNatClampNeg p0) (1 : Int32).toNatClampNeg p1) (2 : Int32).toNatClampNeg p2) (3 : Int32).toNatClampNeg p3)))] H := hP
              refine W.widen (k := 0) (n := 0) (Nat.le_of_ble_eq_true rfl) (Nat.le_of_ble_eq_true rfl) ?_
              refine lv_iand hx hb dX11_isJoint_55 ?_
              refine lv_topi (fun z_9 e_9 => ?_)
              obtain rfl : 0 = z_9 := (e_9.trans (by decide)).symm
              refine lv_istore_n (lv' := [(1, .int 0), (5, .int p3), (4, .int 3), (3, .int 4), (2, .ref h0), (0, .ref h0)]) hx hb dX11_isJoint_56 rfl hl (by decide) rfl (fun ls hl => ?_)
              refine lv_iinc (v := 4) (lv' := [(4, .int 4), (1, .int 0), (5, .int p3), (3, .int 4), (2, .ref h0), (0, .ref h0)]) hx hb dX11_isJoint_57 hl (k := 2) rfl (by decide) (by decide) rfl (fun ls hl => ?_)
              refine lv_goto (tgt := 32) hx hb dX11_isJoint_60 (by decide) ?_
              refine lv_iload hx hb dX11_isJoint_32 (lv_at hl 0 rfl) ?_
              refine lv_iload_n hx hb dX11_isJoint_34 rfl (lv_at hl 3 rfl) ?_
              refine lv_icmp_ge (tgt := 63) hx hb dX11_isJoint_35 (by decide) (fun _ => ?_) (fun c_9 => absurd (by decide) c_9)
              refine lv_iload_n hx hb dX11_isJoint_63 rfl (lv_at hl 1 rfl) ?_
              refine W.widen (k := 0) (n := 0) (Nat.le_of_ble_eq_true rfl) (Nat.le_of_ble_eq_true rfl) ?_
              exact W.zret (v := 0) hx hb hr rfl (fun t ht hW => ⟨⟨0, (), rfl, Or.inr (⟨rfl, (q_c_X11_isJoint_18 c_1 c_32 hp_33 hp_35 hp_38 hp_41)⟩), trivial⟩, hS.F ht⟩) hS.2.2 dX11_isJoint_64
            · have hP := fz_keep hP hk1
              generalize H1 = H at hP hS ⊢
              have hP : va_P (dC, dI) vwCl [(h0, .inl (cI, 4, .inl (upd (upd (upd (upd (fun _ => 0) (0 : Int32).toNatClampNeg p0) (1 : Int32).toNatClampNeg p1) (2 : Int32).toNatClampNeg p2) (3 : Int32).toNatClampNeg p3)))] H := hP
              refine W.widen (k := 0) (n := 0) (Nat.le_of_ble_eq_true rfl) (Nat.le_of_ble_eq_true rfl) ?_
              refine lv_iand hx hb dX11_isJoint_55 ?_
              refine lv_topi (fun z_9 e_9 => ?_)
              obtain rfl : 0 = z_9 := (e_9.trans (by decide)).symm
              refine lv_istore_n (lv' := [(1, .int 0), (5, .int p3), (4, .int 3), (3, .int 4), (2, .ref h0), (0, .ref h0)]) hx hb dX11_isJoint_56 rfl hl (by decide) rfl (fun ls hl => ?_)
              refine lv_iinc (v := 4) (lv' := [(4, .int 4), (1, .int 0), (5, .int p3), (3, .int 4), (2, .ref h0), (0, .ref h0)]) hx hb dX11_isJoint_57 hl (k := 2) rfl (by decide) (by decide) rfl (fun ls hl => ?_)
              refine lv_goto (tgt := 32) hx hb dX11_isJoint_60 (by decide) ?_
              refine lv_iload hx hb dX11_isJoint_32 (lv_at hl 0 rfl) ?_
              refine lv_iload_n hx hb dX11_isJoint_34 rfl (lv_at hl 3 rfl) ?_
              refine lv_icmp_ge (tgt := 63) hx hb dX11_isJoint_35 (by decide) (fun _ => ?_) (fun c_9 => absurd (by decide) c_9)
              refine lv_iload_n hx hb dX11_isJoint_63 rfl (lv_at hl 1 rfl) ?_
              refine W.widen (k := 0) (n := 0) (Nat.le_of_ble_eq_true rfl) (Nat.le_of_ble_eq_true rfl) ?_
              exact W.zret (v := 0) hx hb hr rfl (fun t ht hW => ⟨⟨0, (), rfl, Or.inr (⟨rfl, (q_c_X11_isJoint_19 c_1 c_32 hp_33 hp_35 hp_38 hp_42)⟩), trivial⟩, hS.F ht⟩) hS.2.2 dX11_isJoint_64
        · have hP := fz_keep hP hk1
          generalize H1 = H at hP hS ⊢
          have hP : va_P (dC, dI) vwCl [(h0, .inl (cI, 4, .inl (upd (upd (upd (upd (fun _ => 0) (0 : Int32).toNatClampNeg p0) (1 : Int32).toNatClampNeg p1) (2 : Int32).toNatClampNeg p2) (3 : Int32).toNatClampNeg p3)))] H := hP
          refine W.widen (k := 0) (n := 0) (Nat.le_of_ble_eq_true rfl) (Nat.le_of_ble_eq_true rfl) ?_
          refine lv_iand hx hb dX11_isJoint_55 ?_
          refine lv_topi (fun z_9 e_9 => ?_)
          obtain rfl : 0 = z_9 := (e_9.trans (by decide)).symm
          refine lv_istore_n (lv' := [(1, .int 0), (5, .int p1), (4, .int 1), (3, .int 4), (2, .ref h0), (0, .ref h0)]) hx hb dX11_isJoint_56 rfl hl (by decide) rfl (fun ls hl => ?_)
          refine lv_iinc (v := 2) (lv' := [(4, .int 2), (1, .int 0), (5, .int p1), (3, .int 4), (2, .ref h0), (0, .ref h0)]) hx hb dX11_isJoint_57 hl (k := 2) rfl (by decide) (by decide) rfl (fun ls hl => ?_)
          refine lv_goto (tgt := 32) hx hb dX11_isJoint_60 (by decide) ?_
          refine lv_iload hx hb dX11_isJoint_32 (lv_at hl 0 rfl) ?_
          refine lv_iload_n hx hb dX11_isJoint_34 rfl (lv_at hl 3 rfl) ?_
          refine lv_icmp_ge (tgt := 63) hx hb dX11_isJoint_35 (by decide) (fun c_9 => absurd c_9 (by decide)) (fun _ => ?_)
          refine lv_aload_n hx hb dX11_isJoint_38 rfl (lv_at hl 4 rfl) ?_
          refine lv_iload hx hb dX11_isJoint_39 (lv_at hl 0 rfl) ?_
          refine va_iald hx hb hK hP 0 0 rfl rfl (fz_il (by decide)) dX11_isJoint_41 ?_
          refine lv_topi (fun z_9 e_9 => ?_)
          obtain rfl : p2 = z_9 := (e_9.trans (by first | rfl | simp [upd])).symm
          refine lv_istore (lv' := [(5, .int p2), (4, .int 2), (1, .int 0), (3, .int 4), (2, .ref h0), (0, .ref h0)]) hx hb dX11_isJoint_42 hl (by decide) rfl (fun ls hl => ?_)
          refine lv_iload_n hx hb dX11_isJoint_44 rfl (lv_at hl 2 rfl) ?_
          refine lv_iload hx hb dX11_isJoint_45 (lv_at hl 0 rfl) ?_
          refine lv_i2l (v := p2.toInt64) hx hb dX11_isJoint_47 rfl ?_
          refine lv_lconst (v := (0 : Int32).toInt64) hx hb dX11_isJoint_48 (by decide) ?_
          refine lv_ldc2 (v := 20) hx hb hown (hts _ (List.mem_cons_of_mem _ (List.mem_append_left _ (List.mem_of_getElem? (i := 0) rfl)))) dX11_isJoint_49 ?_
          refine lv_topl (fun z_9 e_9 => ?_)
          obtain rfl : (20 : Int32).toInt64 = z_9 := (e_9.trans (by decide)).symm
          have hPc := hP.sub (ws' := []) [] rfl
          have hDc := hD.sub (ws' := []) [] (by decide) rfl
          have hKc := hK.sub (tys' := []) [] rfl
          have hFc : ∀ q : Nat, H.size ≤ q → A q := fun q h => hA q (Nat.le_trans hS.1 h)
          refine va_calli (va_runS (As := [.long p2.toInt64, .long ((0 : Int32).toInt64), .long ((20 : Int32).toInt64)]) (rest := [.int 0]) ⟨hx, hb, hml, hown, hts⟩ (c_X11_isIn l dC dI e0 p2 0 20 H.size) (cwS 3 hts (goodIn_sub (fun _ h9 => List.mem_cons_of_mem _ (List.mem_append_right _ (h9))) (by decide +kernel)) rfl rfl rfl (by decide +kernel) ⟨(Nat.le_of_ble_eq_true rfl), (Nat.le_of_ble_eq_true rfl)⟩) ⟨fz_blind, fz_pre hPc hKc hDc hAm hS hFc⟩ rfl rfl hl.1 rfl (lv_room (Nat.le_of_ble_eq_true rfl)) dX11_isJoint_52 ⟨(Nat.le_of_ble_eq_true rfl), (Nat.le_of_ble_eq_true rfl)⟩) hS (fun q _ h => hFc q h) hFc (fun r u t H1 locs ht hvm hw hB hz1 hk1 hS => ?_)
          rcases hw with ⟨rfl, hp_43⟩ | ⟨rfl, hp_44⟩
          · have hP := fz_keep hP hk1
            generalize H1 = H at hP hS ⊢
            have hP : va_P (dC, dI) vwCl [(h0, .inl (cI, 4, .inl (upd (upd (upd (upd (fun _ => 0) (0 : Int32).toNatClampNeg p0) (1 : Int32).toNatClampNeg p1) (2 : Int32).toNatClampNeg p2) (3 : Int32).toNatClampNeg p3)))] H := hP
            refine W.widen (k := 0) (n := 0) (Nat.le_of_ble_eq_true rfl) (Nat.le_of_ble_eq_true rfl) ?_
            refine lv_iand hx hb dX11_isJoint_55 ?_
            refine lv_topi (fun z_9 e_9 => ?_)
            obtain rfl : 0 = z_9 := (e_9.trans (by decide)).symm
            refine lv_istore_n (lv' := [(1, .int 0), (5, .int p2), (4, .int 2), (3, .int 4), (2, .ref h0), (0, .ref h0)]) hx hb dX11_isJoint_56 rfl hl (by decide) rfl (fun ls hl => ?_)
            refine lv_iinc (v := 3) (lv' := [(4, .int 3), (1, .int 0), (5, .int p2), (3, .int 4), (2, .ref h0), (0, .ref h0)]) hx hb dX11_isJoint_57 hl (k := 2) rfl (by decide) (by decide) rfl (fun ls hl => ?_)
            refine lv_goto (tgt := 32) hx hb dX11_isJoint_60 (by decide) ?_
            refine lv_iload hx hb dX11_isJoint_32 (lv_at hl 0 rfl) ?_
            refine lv_iload_n hx hb dX11_isJoint_34 rfl (lv_at hl 3 rfl) ?_
            refine lv_icmp_ge (tgt := 63) hx hb dX11_isJoint_35 (by decide) (fun c_9 => absurd c_9 (by decide)) (fun _ => ?_)
            refine lv_aload_n hx hb dX11_isJoint_38 rfl (lv_at hl 4 rfl) ?_
            refine lv_iload hx hb dX11_isJoint_39 (lv_at hl 0 rfl) ?_
            refine va_iald hx hb hK hP 0 0 rfl rfl (fz_il (by decide)) dX11_isJoint_41 ?_
            refine lv_topi (fun z_9 e_9 => ?_)
            obtain rfl : p3 = z_9 := (e_9.trans (by first | rfl | simp [upd])).symm
            refine lv_istore (lv' := [(5, .int p3), (4, .int 3), (1, .int 0), (3, .int 4), (2, .ref h0), (0, .ref h0)]) hx hb dX11_isJoint_42 hl (by decide) rfl (fun ls hl => ?_)
            refine lv_iload_n hx hb dX11_isJoint_44 rfl (lv_at hl 2 rfl) ?_
            refine lv_iload hx hb dX11_isJoint_45 (lv_at hl 0 rfl) ?_
            refine lv_i2l (v := p3.toInt64) hx hb dX11_isJoint_47 rfl ?_
            refine lv_lconst (v := (0 : Int32).toInt64) hx hb dX11_isJoint_48 (by decide) ?_
            refine lv_ldc2 (v := 20) hx hb hown (hts _ (List.mem_cons_of_mem _ (List.mem_append_left _ (List.mem_of_getElem? (i := 0) rfl)))) dX11_isJoint_49 ?_
            refine lv_topl (fun z_9 e_9 => ?_)
            obtain rfl : (20 : Int32).toInt64 = z_9 := (e_9.trans (by decide)).symm
            have hPc := hP.sub (ws' := []) [] rfl
            have hDc := hD.sub (ws' := []) [] (by decide) rfl
            have hKc := hK.sub (tys' := []) [] rfl
            have hFc : ∀ q : Nat, H.size ≤ q → A q := fun q h => hA q (Nat.le_trans hS.1 h)
            refine va_calli (va_runS (As := [.long p3.toInt64, .long ((0 : Int32).toInt64), .long ((20 : Int32).toInt64)]) (rest := [.int 0]) ⟨hx, hb, hml, hown, hts⟩ (c_X11_isIn l dC dI e0 p3 0 20 H.size) (cwS 3 hts (goodIn_sub (fun _ h9 => List.mem_cons_of_mem _ (List.mem_append_right _ (h9))) (by decide +kernel)) rfl rfl rfl (by decide +kernel) ⟨(Nat.le_of_ble_eq_true rfl), (Nat.le_of_ble_eq_true rfl)⟩) ⟨fz_blind, fz_pre hPc hKc hDc hAm hS hFc⟩ rfl rfl hl.1 rfl (lv_room (Nat.le_of_ble_eq_true rfl)) dX11_isJoint_52 ⟨(Nat.le_of_ble_eq_true rfl), (Nat.le_of_ble_eq_true rfl)⟩) hS (fun q _ h => hFc q h) hFc (fun r u t H1 locs ht hvm hw hB hz1 hk1 hS => ?_)
            rcases hw with ⟨rfl, hp_45⟩ | ⟨rfl, hp_46⟩
            · have hP := fz_keep hP hk1
              generalize H1 = H at hP hS ⊢
              have hP : va_P (dC, dI) vwCl [(h0, .inl (cI, 4, .inl (upd (upd (upd (upd (fun _ => 0) (0 : Int32).toNatClampNeg p0) (1 : Int32).toNatClampNeg p1) (2 : Int32).toNatClampNeg p2) (3 : Int32).toNatClampNeg p3)))] H := hP
              refine W.widen (k := 0) (n := 0) (Nat.le_of_ble_eq_true rfl) (Nat.le_of_ble_eq_true rfl) ?_
              refine lv_iand hx hb dX11_isJoint_55 ?_
              refine lv_topi (fun z_9 e_9 => ?_)
              obtain rfl : 0 = z_9 := (e_9.trans (by decide)).symm
              refine lv_istore_n (lv' := [(1, .int 0), (5, .int p3), (4, .int 3), (3, .int 4), (2, .ref h0), (0, .ref h0)]) hx hb dX11_isJoint_56 rfl hl (by decide) rfl (fun ls hl => ?_)
              refine lv_iinc (v := 4) (lv' := [(4, .int 4), (1, .int 0), (5, .int p3), (3, .int 4), (2, .ref h0), (0, .ref h0)]) hx hb dX11_isJoint_57 hl (k := 2) rfl (by decide) (by decide) rfl (fun ls hl => ?_)
              refine lv_goto (tgt := 32) hx hb dX11_isJoint_60 (by decide) ?_
              refine lv_iload hx hb dX11_isJoint_32 (lv_at hl 0 rfl) ?_
              refine lv_iload_n hx hb dX11_isJoint_34 rfl (lv_at hl 3 rfl) ?_
              refine lv_icmp_ge (tgt := 63) hx hb dX11_isJoint_35 (by decide) (fun _ => ?_) (fun c_9 => absurd (by decide) c_9)
              refine lv_iload_n hx hb dX11_isJoint_63 rfl (lv_at hl 1 rfl) ?_
              refine W.widen (k := 0) (n := 0) (Nat.le_of_ble_eq_true rfl) (Nat.le_of_ble_eq_true rfl) ?_
              exact W.zret (v := 0) hx hb hr rfl (fun t ht hW => ⟨⟨0, (), rfl, Or.inr (⟨rfl, (q_c_X11_isJoint_20 c_1 c_32 hp_33 hp_36 hp_43 hp_45)⟩), trivial⟩, hS.F ht⟩) hS.2.2 dX11_isJoint_64
            · have hP := fz_keep hP hk1
              generalize H1 = H at hP hS ⊢
              have hP : va_P (dC, dI) vwCl [(h0, .inl (cI, 4, .inl (upd (upd (upd (upd (fun _ => 0) (0 : Int32).toNatClampNeg p0) (1 : Int32).toNatClampNeg p1) (2 : Int32).toNatClampNeg p2) (3 : Int32).toNatClampNeg p3)))] H := hP
              refine W.widen (k := 0) (n := 0) (Nat.le_of_ble_eq_true rfl) (Nat.le_of_ble_eq_true rfl) ?_
              refine lv_iand hx hb dX11_isJoint_55 ?_
              refine lv_topi (fun z_9 e_9 => ?_)
              obtain rfl : 0 = z_9 := (e_9.trans (by decide)).symm
              refine lv_istore_n (lv' := [(1, .int 0), (5, .int p3), (4, .int 3), (3, .int 4), (2, .ref h0), (0, .ref h0)]) hx hb dX11_isJoint_56 rfl hl (by decide) rfl (fun ls hl => ?_)
              refine lv_iinc (v := 4) (lv' := [(4, .int 4), (1, .int 0), (5, .int p3), (3, .int 4), (2, .ref h0), (0, .ref h0)]) hx hb dX11_isJoint_57 hl (k := 2) rfl (by decide) (by decide) rfl (fun ls hl => ?_)
              refine lv_goto (tgt := 32) hx hb dX11_isJoint_60 (by decide) ?_
              refine lv_iload hx hb dX11_isJoint_32 (lv_at hl 0 rfl) ?_
              refine lv_iload_n hx hb dX11_isJoint_34 rfl (lv_at hl 3 rfl) ?_
              refine lv_icmp_ge (tgt := 63) hx hb dX11_isJoint_35 (by decide) (fun _ => ?_) (fun c_9 => absurd (by decide) c_9)
              refine lv_iload_n hx hb dX11_isJoint_63 rfl (lv_at hl 1 rfl) ?_
              refine W.widen (k := 0) (n := 0) (Nat.le_of_ble_eq_true rfl) (Nat.le_of_ble_eq_true rfl) ?_
              exact W.zret (v := 0) hx hb hr rfl (fun t ht hW => ⟨⟨0, (), rfl, Or.inr (⟨rfl, (q_c_X11_isJoint_21 c_1 c_32 hp_33 hp_36 hp_43 hp_46)⟩), trivial⟩, hS.F ht⟩) hS.2.2 dX11_isJoint_64
          · have hP := fz_keep hP hk1
            generalize H1 = H at hP hS ⊢
            have hP : va_P (dC, dI) vwCl [(h0, .inl (cI, 4, .inl (upd (upd (upd (upd (fun _ => 0) (0 : Int32).toNatClampNeg p0) (1 : Int32).toNatClampNeg p1) (2 : Int32).toNatClampNeg p2) (3 : Int32).toNatClampNeg p3)))] H := hP
            refine W.widen (k := 0) (n := 0) (Nat.le_of_ble_eq_true rfl) (Nat.le_of_ble_eq_true rfl) ?_
            refine lv_iand hx hb dX11_isJoint_55 ?_
            refine lv_topi (fun z_9 e_9 => ?_)
            obtain rfl : 0 = z_9 := (e_9.trans (by decide)).symm
            refine lv_istore_n (lv' := [(1, .int 0), (5, .int p2), (4, .int 2), (3, .int 4), (2, .ref h0), (0, .ref h0)]) hx hb dX11_isJoint_56 rfl hl (by decide) rfl (fun ls hl => ?_)
            refine lv_iinc (v := 3) (lv' := [(4, .int 3), (1, .int 0), (5, .int p2), (3, .int 4), (2, .ref h0), (0, .ref h0)]) hx hb dX11_isJoint_57 hl (k := 2) rfl (by decide) (by decide) rfl (fun ls hl => ?_)
            refine lv_goto (tgt := 32) hx hb dX11_isJoint_60 (by decide) ?_
            refine lv_iload hx hb dX11_isJoint_32 (lv_at hl 0 rfl) ?_
            refine lv_iload_n hx hb dX11_isJoint_34 rfl (lv_at hl 3 rfl) ?_
            refine lv_icmp_ge (tgt := 63) hx hb dX11_isJoint_35 (by decide) (fun c_9 => absurd c_9 (by decide)) (fun _ => ?_)
            refine lv_aload_n hx hb dX11_isJoint_38 rfl (lv_at hl 4 rfl) ?_
            refine lv_iload hx hb dX11_isJoint_39 (lv_at hl 0 rfl) ?_
            refine va_iald hx hb hK hP 0 0 rfl rfl (fz_il (by decide)) dX11_isJoint_41 ?_
            refine lv_topi (fun z_9 e_9 => ?_)
            obtain rfl : p3 = z_9 := (e_9.trans (by first | rfl | simp [upd])).symm
            refine lv_istore (lv' := [(5, .int p3), (4, .int 3), (1, .int 0), (3, .int 4), (2, .ref h0), (0, .ref h0)]) hx hb dX11_isJoint_42 hl (by decide) rfl (fun ls hl => ?_)
            refine lv_iload_n hx hb dX11_isJoint_44 rfl (lv_at hl 2 rfl) ?_
            refine lv_iload hx hb dX11_isJoint_45 (lv_at hl 0 rfl) ?_
            refine lv_i2l (v := p3.toInt64) hx hb dX11_isJoint_47 rfl ?_
            refine lv_lconst (v := (0 : Int32).toInt64) hx hb dX11_isJoint_48 (by decide) ?_
            refine lv_ldc2 (v := 20) hx hb hown (hts _ (List.mem_cons_of_mem _ (List.mem_append_left _ (List.mem_of_getElem? (i := 0) rfl)))) dX11_isJoint_49 ?_
            refine lv_topl (fun z_9 e_9 => ?_)
            obtain rfl : (20 : Int32).toInt64 = z_9 := (e_9.trans (by decide)).symm
            have hPc := hP.sub (ws' := []) [] rfl
            have hDc := hD.sub (ws' := []) [] (by decide) rfl
            have hKc := hK.sub (tys' := []) [] rfl
            have hFc : ∀ q : Nat, H.size ≤ q → A q := fun q h => hA q (Nat.le_trans hS.1 h)
            refine va_calli (va_runS (As := [.long p3.toInt64, .long ((0 : Int32).toInt64), .long ((20 : Int32).toInt64)]) (rest := [.int 0]) ⟨hx, hb, hml, hown, hts⟩ (c_X11_isIn l dC dI e0 p3 0 20 H.size) (cwS 3 hts (goodIn_sub (fun _ h9 => List.mem_cons_of_mem _ (List.mem_append_right _ (h9))) (by decide +kernel)) rfl rfl rfl (by decide +kernel) ⟨(Nat.le_of_ble_eq_true rfl), (Nat.le_of_ble_eq_true rfl)⟩) ⟨fz_blind, fz_pre hPc hKc hDc hAm hS hFc⟩ rfl rfl hl.1 rfl (lv_room (Nat.le_of_ble_eq_true rfl)) dX11_isJoint_52 ⟨(Nat.le_of_ble_eq_true rfl), (Nat.le_of_ble_eq_true rfl)⟩) hS (fun q _ h => hFc q h) hFc (fun r u t H1 locs ht hvm hw hB hz1 hk1 hS => ?_)
            rcases hw with ⟨rfl, hp_47⟩ | ⟨rfl, hp_48⟩
            · have hP := fz_keep hP hk1
              generalize H1 = H at hP hS ⊢
              have hP : va_P (dC, dI) vwCl [(h0, .inl (cI, 4, .inl (upd (upd (upd (upd (fun _ => 0) (0 : Int32).toNatClampNeg p0) (1 : Int32).toNatClampNeg p1) (2 : Int32).toNatClampNeg p2) (3 : Int32).toNatClampNeg p3)))] H := hP
              refine W.widen (k := 0) (n := 0) (Nat.le_of_ble_eq_true rfl) (Nat.le_of_ble_eq_true rfl) ?_
              refine lv_iand hx hb dX11_isJoint_55 ?_
              refine lv_topi (fun z_9 e_9 => ?_)
              obtain rfl : 0 = z_9 := (e_9.trans (by decide)).symm
              refine lv_istore_n (lv' := [(1, .int 0), (5, .int p3), (4, .int 3), (3, .int 4), (2, .ref h0), (0, .ref h0)]) hx hb dX11_isJoint_56 rfl hl (by decide) rfl (fun ls hl => ?_)
              refine lv_iinc (v := 4) (lv' := [(4, .int 4), (1, .int 0), (5, .int p3), (3, .int 4), (2, .ref h0), (0, .ref h0)]) hx hb dX11_isJoint_57 hl (k := 2) rfl (by decide) (by decide) rfl (fun ls hl => ?_)
              refine lv_goto (tgt := 32) hx hb dX11_isJoint_60 (by decide) ?_
              refine lv_iload hx hb dX11_isJoint_32 (lv_at hl 0 rfl) ?_
              refine lv_iload_n hx hb dX11_isJoint_34 rfl (lv_at hl 3 rfl) ?_
              refine lv_icmp_ge (tgt := 63) hx hb dX11_isJoint_35 (by decide) (fun _ => ?_) (fun c_9 => absurd (by decide) c_9)
              refine lv_iload_n hx hb dX11_isJoint_63 rfl (lv_at hl 1 rfl) ?_
              refine W.widen (k := 0) (n := 0) (Nat.le_of_ble_eq_true rfl) (Nat.le_of_ble_eq_true rfl) ?_
              exact W.zret (v := 0) hx hb hr rfl (fun t ht hW => ⟨⟨0, (), rfl, Or.inr (⟨rfl, (q_c_X11_isJoint_22 c_1 c_32 hp_33 hp_36 hp_44 hp_47)⟩), trivial⟩, hS.F ht⟩) hS.2.2 dX11_isJoint_64
            · have hP := fz_keep hP hk1
              generalize H1 = H at hP hS ⊢
              have hP : va_P (dC, dI) vwCl [(h0, .inl (cI, 4, .inl (upd (upd (upd (upd (fun _ => 0) (0 : Int32).toNatClampNeg p0) (1 : Int32).toNatClampNeg p1) (2 : Int32).toNatClampNeg p2) (3 : Int32).toNatClampNeg p3)))] H := hP
              refine W.widen (k := 0) (n := 0) (Nat.le_of_ble_eq_true rfl) (Nat.le_of_ble_eq_true rfl) ?_
              refine lv_iand hx hb dX11_isJoint_55 ?_
              refine lv_topi (fun z_9 e_9 => ?_)
              obtain rfl : 0 = z_9 := (e_9.trans (by decide)).symm
              refine lv_istore_n (lv' := [(1, .int 0), (5, .int p3), (4, .int 3), (3, .int 4), (2, .ref h0), (0, .ref h0)]) hx hb dX11_isJoint_56 rfl hl (by decide) rfl (fun ls hl => ?_)
              refine lv_iinc (v := 4) (lv' := [(4, .int 4), (1, .int 0), (5, .int p3), (3, .int 4), (2, .ref h0), (0, .ref h0)]) hx hb dX11_isJoint_57 hl (k := 2) rfl (by decide) (by decide) rfl (fun ls hl => ?_)
              refine lv_goto (tgt := 32) hx hb dX11_isJoint_60 (by decide) ?_
              refine lv_iload hx hb dX11_isJoint_32 (lv_at hl 0 rfl) ?_
              refine lv_iload_n hx hb dX11_isJoint_34 rfl (lv_at hl 3 rfl) ?_
              refine lv_icmp_ge (tgt := 63) hx hb dX11_isJoint_35 (by decide) (fun _ => ?_) (fun c_9 => absurd (by decide) c_9)
              refine lv_iload_n hx hb dX11_isJoint_63 rfl (lv_at hl 1 rfl) ?_
              refine W.widen (k := 0) (n := 0) (Nat.le_of_ble_eq_true rfl) (Nat.le_of_ble_eq_true rfl) ?_
              exact W.zret (v := 0) hx hb hr rfl (fun t ht hW => ⟨⟨0, (), rfl, Or.inr (⟨rfl, (q_c_X11_isJoint_23 c_1 c_32 hp_33 hp_36 hp_44 hp_48)⟩), trivial⟩, hS.F ht⟩) hS.2.2 dX11_isJoint_64
      · have hP := fz_keep hP hk1
        generalize H1 = H at hP hS ⊢
        have hP : va_P (dC, dI) vwCl [(h0, .inl (cI, 4, .inl (upd (upd (upd (upd (fun _ => 0) (0 : Int32).toNatClampNeg p0) (1 : Int32).toNatClampNeg p1) (2 : Int32).toNatClampNeg p2) (3 : Int32).toNatClampNeg p3)))] H := hP
        refine W.widen (k := 0) (n := 0) (Nat.le_of_ble_eq_true rfl) (Nat.le_of_ble_eq_true rfl) ?_
        refine lv_iand hx hb dX11_isJoint_55 ?_
        refine lv_topi (fun z_9 e_9 => ?_)
        obtain rfl : 0 = z_9 := (e_9.trans (by decide)).symm
        refine lv_istore_n (lv' := [(1, .int 0), (5, .int p0), (4, .int 0), (3, .int 4), (2, .ref h0), (0, .ref h0)]) hx hb dX11_isJoint_56 rfl hl (by decide) rfl (fun ls hl => ?_)
        refine lv_iinc (v := 1) (lv' := [(4, .int 1), (1, .int 0), (5, .int p0), (3, .int 4), (2, .ref h0), (0, .ref h0)]) hx hb dX11_isJoint_57 hl (k := 2) rfl (by decide) (by decide) rfl (fun ls hl => ?_)
        refine lv_goto (tgt := 32) hx hb dX11_isJoint_60 (by decide) ?_
        refine lv_iload hx hb dX11_isJoint_32 (lv_at hl 0 rfl) ?_
        refine lv_iload_n hx hb dX11_isJoint_34 rfl (lv_at hl 3 rfl) ?_
        refine lv_icmp_ge (tgt := 63) hx hb dX11_isJoint_35 (by decide) (fun c_9 => absurd c_9 (by decide)) (fun _ => ?_)
        refine lv_aload_n hx hb dX11_isJoint_38 rfl (lv_at hl 4 rfl) ?_
        refine lv_iload hx hb dX11_isJoint_39 (lv_at hl 0 rfl) ?_
        refine va_iald hx hb hK hP 0 0 rfl rfl (fz_il (by decide)) dX11_isJoint_41 ?_
        refine lv_topi (fun z_9 e_9 => ?_)
        obtain rfl : p1 = z_9 := (e_9.trans (by first | rfl | simp [upd])).symm
        refine lv_istore (lv' := [(5, .int p1), (4, .int 1), (1, .int 0), (3, .int 4), (2, .ref h0), (0, .ref h0)]) hx hb dX11_isJoint_42 hl (by decide) rfl (fun ls hl => ?_)
        refine lv_iload_n hx hb dX11_isJoint_44 rfl (lv_at hl 2 rfl) ?_
        refine lv_iload hx hb dX11_isJoint_45 (lv_at hl 0 rfl) ?_
        refine lv_i2l (v := p1.toInt64) hx hb dX11_isJoint_47 rfl ?_
        refine lv_lconst (v := (0 : Int32).toInt64) hx hb dX11_isJoint_48 (by decide) ?_
        refine lv_ldc2 (v := 20) hx hb hown (hts _ (List.mem_cons_of_mem _ (List.mem_append_left _ (List.mem_of_getElem? (i := 0) rfl)))) dX11_isJoint_49 ?_
        refine lv_topl (fun z_9 e_9 => ?_)
        obtain rfl : (20 : Int32).toInt64 = z_9 := (e_9.trans (by decide)).symm
        have hPc := hP.sub (ws' := []) [] rfl
        have hDc := hD.sub (ws' := []) [] (by decide) rfl
        have hKc := hK.sub (tys' := []) [] rfl
        have hFc : ∀ q : Nat, H.size ≤ q → A q := fun q h => hA q (Nat.le_trans hS.1 h)
        refine va_calli (va_runS (As := [.long p1.toInt64, .long ((0 : Int32).toInt64), .long ((20 : Int32).toInt64)]) (rest := [.int 0]) ⟨hx, hb, hml, hown, hts⟩ (c_X11_isIn l dC dI e0 p1 0 20 H.size) (cwS 3 hts (goodIn_sub (fun _ h9 => List.mem_cons_of_mem _ (List.mem_append_right _ (h9))) (by decide +kernel)) rfl rfl rfl (by decide +kernel) ⟨(Nat.le_of_ble_eq_true rfl), (Nat.le_of_ble_eq_true rfl)⟩) ⟨fz_blind, fz_pre hPc hKc hDc hAm hS hFc⟩ rfl rfl hl.1 rfl (lv_room (Nat.le_of_ble_eq_true rfl)) dX11_isJoint_52 ⟨(Nat.le_of_ble_eq_true rfl), (Nat.le_of_ble_eq_true rfl)⟩) hS (fun q _ h => hFc q h) hFc (fun r u t H1 locs ht hvm hw hB hz1 hk1 hS => ?_)
        rcases hw with ⟨rfl, hp_49⟩ | ⟨rfl, hp_50⟩
        · have hP := fz_keep hP hk1
          generalize H1 = H at hP hS ⊢
          have hP : va_P (dC, dI) vwCl [(h0, .inl (cI, 4, .inl (upd (upd (upd (upd (fun _ => 0) (0 : Int32).toNatClampNeg p0) (1 : Int32).toNatClampNeg p1) (2 : Int32).toNatClampNeg p2) (3 : Int32).toNatClampNeg p3)))] H := hP
          refine W.widen (k := 0) (n := 0) (Nat.le_of_ble_eq_true rfl) (Nat.le_of_ble_eq_true rfl) ?_
          refine lv_iand hx hb dX11_isJoint_55 ?_
          refine lv_topi (fun z_9 e_9 => ?_)
          obtain rfl : 0 = z_9 := (e_9.trans (by decide)).symm
          refine lv_istore_n (lv' := [(1, .int 0), (5, .int p1), (4, .int 1), (3, .int 4), (2, .ref h0), (0, .ref h0)]) hx hb dX11_isJoint_56 rfl hl (by decide) rfl (fun ls hl => ?_)
          refine lv_iinc (v := 2) (lv' := [(4, .int 2), (1, .int 0), (5, .int p1), (3, .int 4), (2, .ref h0), (0, .ref h0)]) hx hb dX11_isJoint_57 hl (k := 2) rfl (by decide) (by decide) rfl (fun ls hl => ?_)
          refine lv_goto (tgt := 32) hx hb dX11_isJoint_60 (by decide) ?_
          refine lv_iload hx hb dX11_isJoint_32 (lv_at hl 0 rfl) ?_
          refine lv_iload_n hx hb dX11_isJoint_34 rfl (lv_at hl 3 rfl) ?_
          refine lv_icmp_ge (tgt := 63) hx hb dX11_isJoint_35 (by decide) (fun c_9 => absurd c_9 (by decide)) (fun _ => ?_)
          refine lv_aload_n hx hb dX11_isJoint_38 rfl (lv_at hl 4 rfl) ?_
          refine lv_iload hx hb dX11_isJoint_39 (lv_at hl 0 rfl) ?_
          refine va_iald hx hb hK hP 0 0 rfl rfl (fz_il (by decide)) dX11_isJoint_41 ?_
          refine lv_topi (fun z_9 e_9 => ?_)
          obtain rfl : p2 = z_9 := (e_9.trans (by first | rfl | simp [upd])).symm
          refine lv_istore (lv' := [(5, .int p2), (4, .int 2), (1, .int 0), (3, .int 4), (2, .ref h0), (0, .ref h0)]) hx hb dX11_isJoint_42 hl (by decide) rfl (fun ls hl => ?_)
          refine lv_iload_n hx hb dX11_isJoint_44 rfl (lv_at hl 2 rfl) ?_
          refine lv_iload hx hb dX11_isJoint_45 (lv_at hl 0 rfl) ?_
          refine lv_i2l (v := p2.toInt64) hx hb dX11_isJoint_47 rfl ?_
          refine lv_lconst (v := (0 : Int32).toInt64) hx hb dX11_isJoint_48 (by decide) ?_
          refine lv_ldc2 (v := 20) hx hb hown (hts _ (List.mem_cons_of_mem _ (List.mem_append_left _ (List.mem_of_getElem? (i := 0) rfl)))) dX11_isJoint_49 ?_
          refine lv_topl (fun z_9 e_9 => ?_)
          obtain rfl : (20 : Int32).toInt64 = z_9 := (e_9.trans (by decide)).symm
          have hPc := hP.sub (ws' := []) [] rfl
          have hDc := hD.sub (ws' := []) [] (by decide) rfl
          have hKc := hK.sub (tys' := []) [] rfl
          have hFc : ∀ q : Nat, H.size ≤ q → A q := fun q h => hA q (Nat.le_trans hS.1 h)
          refine va_calli (va_runS (As := [.long p2.toInt64, .long ((0 : Int32).toInt64), .long ((20 : Int32).toInt64)]) (rest := [.int 0]) ⟨hx, hb, hml, hown, hts⟩ (c_X11_isIn l dC dI e0 p2 0 20 H.size) (cwS 3 hts (goodIn_sub (fun _ h9 => List.mem_cons_of_mem _ (List.mem_append_right _ (h9))) (by decide +kernel)) rfl rfl rfl (by decide +kernel) ⟨(Nat.le_of_ble_eq_true rfl), (Nat.le_of_ble_eq_true rfl)⟩) ⟨fz_blind, fz_pre hPc hKc hDc hAm hS hFc⟩ rfl rfl hl.1 rfl (lv_room (Nat.le_of_ble_eq_true rfl)) dX11_isJoint_52 ⟨(Nat.le_of_ble_eq_true rfl), (Nat.le_of_ble_eq_true rfl)⟩) hS (fun q _ h => hFc q h) hFc (fun r u t H1 locs ht hvm hw hB hz1 hk1 hS => ?_)
          rcases hw with ⟨rfl, hp_51⟩ | ⟨rfl, hp_52⟩
          · have hP := fz_keep hP hk1
            generalize H1 = H at hP hS ⊢
            have hP : va_P (dC, dI) vwCl [(h0, .inl (cI, 4, .inl (upd (upd (upd (upd (fun _ => 0) (0 : Int32).toNatClampNeg p0) (1 : Int32).toNatClampNeg p1) (2 : Int32).toNatClampNeg p2) (3 : Int32).toNatClampNeg p3)))] H := hP
            refine W.widen (k := 0) (n := 0) (Nat.le_of_ble_eq_true rfl) (Nat.le_of_ble_eq_true rfl) ?_
            refine lv_iand hx hb dX11_isJoint_55 ?_
            refine lv_topi (fun z_9 e_9 => ?_)
            obtain rfl : 0 = z_9 := (e_9.trans (by decide)).symm
            refine lv_istore_n (lv' := [(1, .int 0), (5, .int p2), (4, .int 2), (3, .int 4), (2, .ref h0), (0, .ref h0)]) hx hb dX11_isJoint_56 rfl hl (by decide) rfl (fun ls hl => ?_)
            refine lv_iinc (v := 3) (lv' := [(4, .int 3), (1, .int 0), (5, .int p2), (3, .int 4), (2, .ref h0), (0, .ref h0)]) hx hb dX11_isJoint_57 hl (k := 2) rfl (by decide) (by decide) rfl (fun ls hl => ?_)
            refine lv_goto (tgt := 32) hx hb dX11_isJoint_60 (by decide) ?_
            refine lv_iload hx hb dX11_isJoint_32 (lv_at hl 0 rfl) ?_
            refine lv_iload_n hx hb dX11_isJoint_34 rfl (lv_at hl 3 rfl) ?_
            refine lv_icmp_ge (tgt := 63) hx hb dX11_isJoint_35 (by decide) (fun c_9 => absurd c_9 (by decide)) (fun _ => ?_)
            refine lv_aload_n hx hb dX11_isJoint_38 rfl (lv_at hl 4 rfl) ?_
            refine lv_iload hx hb dX11_isJoint_39 (lv_at hl 0 rfl) ?_
            refine va_iald hx hb hK hP 0 0 rfl rfl (fz_il (by decide)) dX11_isJoint_41 ?_
            refine lv_topi (fun z_9 e_9 => ?_)
            obtain rfl : p3 = z_9 := (e_9.trans (by first | rfl | simp [upd])).symm
            refine lv_istore (lv' := [(5, .int p3), (4, .int 3), (1, .int 0), (3, .int 4), (2, .ref h0), (0, .ref h0)]) hx hb dX11_isJoint_42 hl (by decide) rfl (fun ls hl => ?_)
            refine lv_iload_n hx hb dX11_isJoint_44 rfl (lv_at hl 2 rfl) ?_
            refine lv_iload hx hb dX11_isJoint_45 (lv_at hl 0 rfl) ?_
            refine lv_i2l (v := p3.toInt64) hx hb dX11_isJoint_47 rfl ?_
            refine lv_lconst (v := (0 : Int32).toInt64) hx hb dX11_isJoint_48 (by decide) ?_
            refine lv_ldc2 (v := 20) hx hb hown (hts _ (List.mem_cons_of_mem _ (List.mem_append_left _ (List.mem_of_getElem? (i := 0) rfl)))) dX11_isJoint_49 ?_
            refine lv_topl (fun z_9 e_9 => ?_)
            obtain rfl : (20 : Int32).toInt64 = z_9 := (e_9.trans (by decide)).symm
            have hPc := hP.sub (ws' := []) [] rfl
            have hDc := hD.sub (ws' := []) [] (by decide) rfl
            have hKc := hK.sub (tys' := []) [] rfl
            have hFc : ∀ q : Nat, H.size ≤ q → A q := fun q h => hA q (Nat.le_trans hS.1 h)
            refine va_calli (va_runS (As := [.long p3.toInt64, .long ((0 : Int32).toInt64), .long ((20 : Int32).toInt64)]) (rest := [.int 0]) ⟨hx, hb, hml, hown, hts⟩ (c_X11_isIn l dC dI e0 p3 0 20 H.size) (cwS 3 hts (goodIn_sub (fun _ h9 => List.mem_cons_of_mem _ (List.mem_append_right _ (h9))) (by decide +kernel)) rfl rfl rfl (by decide +kernel) ⟨(Nat.le_of_ble_eq_true rfl), (Nat.le_of_ble_eq_true rfl)⟩) ⟨fz_blind, fz_pre hPc hKc hDc hAm hS hFc⟩ rfl rfl hl.1 rfl (lv_room (Nat.le_of_ble_eq_true rfl)) dX11_isJoint_52 ⟨(Nat.le_of_ble_eq_true rfl), (Nat.le_of_ble_eq_true rfl)⟩) hS (fun q _ h => hFc q h) hFc (fun r u t H1 locs ht hvm hw hB hz1 hk1 hS => ?_)
            rcases hw with ⟨rfl, hp_53⟩ | ⟨rfl, hp_54⟩
            · have hP := fz_keep hP hk1
              generalize H1 = H at hP hS ⊢
              have hP : va_P (dC, dI) vwCl [(h0, .inl (cI, 4, .inl (upd (upd (upd (upd (fun _ => 0) (0 : Int32).toNatClampNeg p0) (1 : Int32).toNatClampNeg p1) (2 : Int32).toNatClampNeg p2) (3 : Int32).toNatClampNeg p3)))] H := hP
              refine W.widen (k := 0) (n := 0) (Nat.le_of_ble_eq_true rfl) (Nat.le_of_ble_eq_true rfl) ?_
              refine lv_iand hx hb dX11_isJoint_55 ?_
              refine lv_topi (fun z_9 e_9 => ?_)
              obtain rfl : 0 = z_9 := (e_9.trans (by decide)).symm
              refine lv_istore_n (lv' := [(1, .int 0), (5, .int p3), (4, .int 3), (3, .int 4), (2, .ref h0), (0, .ref h0)]) hx hb dX11_isJoint_56 rfl hl (by decide) rfl (fun ls hl => ?_)
              refine lv_iinc (v := 4) (lv' := [(4, .int 4), (1, .int 0), (5, .int p3), (3, .int 4), (2, .ref h0), (0, .ref h0)]) hx hb dX11_isJoint_57 hl (k := 2) rfl (by decide) (by decide) rfl (fun ls hl => ?_)
              refine lv_goto (tgt := 32) hx hb dX11_isJoint_60 (by decide) ?_
              refine lv_iload hx hb dX11_isJoint_32 (lv_at hl 0 rfl) ?_
              refine lv_iload_n hx hb dX11_isJoint_34 rfl (lv_at hl 3 rfl) ?_
              refine lv_icmp_ge (tgt := 63) hx hb dX11_isJoint_35 (by decide) (fun _ => ?_) (fun c_9 => absurd (by decide) c_9)
              refine lv_iload_n hx hb dX11_isJoint_63 rfl (lv_at hl 1 rfl) ?_
              refine W.widen (k := 0) (n := 0) (Nat.le_of_ble_eq_true rfl) (Nat.le_of_ble_eq_true rfl) ?_
              exact W.zret (v := 0) hx hb hr rfl (fun t ht hW => ⟨⟨0, (), rfl, Or.inr (⟨rfl, (q_c_X11_isJoint_24 c_1 c_32 hp_34 hp_49 hp_51 hp_53)⟩), trivial⟩, hS.F ht⟩) hS.2.2 dX11_isJoint_64
            · have hP := fz_keep hP hk1
              generalize H1 = H at hP hS ⊢
              have hP : va_P (dC, dI) vwCl [(h0, .inl (cI, 4, .inl (upd (upd (upd (upd (fun _ => 0) (0 : Int32).toNatClampNeg p0) (1 : Int32).toNatClampNeg p1) (2 : Int32).toNatClampNeg p2) (3 : Int32).toNatClampNeg p3)))] H := hP
              refine W.widen (k := 0) (n := 0) (Nat.le_of_ble_eq_true rfl) (Nat.le_of_ble_eq_true rfl) ?_
              refine lv_iand hx hb dX11_isJoint_55 ?_
              refine lv_topi (fun z_9 e_9 => ?_)
              obtain rfl : 0 = z_9 := (e_9.trans (by decide)).symm
              refine lv_istore_n (lv' := [(1, .int 0), (5, .int p3), (4, .int 3), (3, .int 4), (2, .ref h0), (0, .ref h0)]) hx hb dX11_isJoint_56 rfl hl (by decide) rfl (fun ls hl => ?_)
              refine lv_iinc (v := 4) (lv' := [(4, .int 4), (1, .int 0), (5, .int p3), (3, .int 4), (2, .ref h0), (0, .ref h0)]) hx hb dX11_isJoint_57 hl (k := 2) rfl (by decide) (by decide) rfl (fun ls hl => ?_)
              refine lv_goto (tgt := 32) hx hb dX11_isJoint_60 (by decide) ?_
              refine lv_iload hx hb dX11_isJoint_32 (lv_at hl 0 rfl) ?_
              refine lv_iload_n hx hb dX11_isJoint_34 rfl (lv_at hl 3 rfl) ?_
              refine lv_icmp_ge (tgt := 63) hx hb dX11_isJoint_35 (by decide) (fun _ => ?_) (fun c_9 => absurd (by decide) c_9)
              refine lv_iload_n hx hb dX11_isJoint_63 rfl (lv_at hl 1 rfl) ?_
              refine W.widen (k := 0) (n := 0) (Nat.le_of_ble_eq_true rfl) (Nat.le_of_ble_eq_true rfl) ?_
              exact W.zret (v := 0) hx hb hr rfl (fun t ht hW => ⟨⟨0, (), rfl, Or.inr (⟨rfl, (q_c_X11_isJoint_25 c_1 c_32 hp_34 hp_49 hp_51 hp_54)⟩), trivial⟩, hS.F ht⟩) hS.2.2 dX11_isJoint_64
          · have hP := fz_keep hP hk1
            generalize H1 = H at hP hS ⊢
            have hP : va_P (dC, dI) vwCl [(h0, .inl (cI, 4, .inl (upd (upd (upd (upd (fun _ => 0) (0 : Int32).toNatClampNeg p0) (1 : Int32).toNatClampNeg p1) (2 : Int32).toNatClampNeg p2) (3 : Int32).toNatClampNeg p3)))] H := hP
            refine W.widen (k := 0) (n := 0) (Nat.le_of_ble_eq_true rfl) (Nat.le_of_ble_eq_true rfl) ?_
            refine lv_iand hx hb dX11_isJoint_55 ?_
            refine lv_topi (fun z_9 e_9 => ?_)
            obtain rfl : 0 = z_9 := (e_9.trans (by decide)).symm
            refine lv_istore_n (lv' := [(1, .int 0), (5, .int p2), (4, .int 2), (3, .int 4), (2, .ref h0), (0, .ref h0)]) hx hb dX11_isJoint_56 rfl hl (by decide) rfl (fun ls hl => ?_)
            refine lv_iinc (v := 3) (lv' := [(4, .int 3), (1, .int 0), (5, .int p2), (3, .int 4), (2, .ref h0), (0, .ref h0)]) hx hb dX11_isJoint_57 hl (k := 2) rfl (by decide) (by decide) rfl (fun ls hl => ?_)
            refine lv_goto (tgt := 32) hx hb dX11_isJoint_60 (by decide) ?_
            refine lv_iload hx hb dX11_isJoint_32 (lv_at hl 0 rfl) ?_
            refine lv_iload_n hx hb dX11_isJoint_34 rfl (lv_at hl 3 rfl) ?_
            refine lv_icmp_ge (tgt := 63) hx hb dX11_isJoint_35 (by decide) (fun c_9 => absurd c_9 (by decide)) (fun _ => ?_)
            refine lv_aload_n hx hb dX11_isJoint_38 rfl (lv_at hl 4 rfl) ?_
            refine lv_iload hx hb dX11_isJoint_39 (lv_at hl 0 rfl) ?_
            refine va_iald hx hb hK hP 0 0 rfl rfl (fz_il (by decide)) dX11_isJoint_41 ?_
            refine lv_topi (fun z_9 e_9 => ?_)
            obtain rfl : p3 = z_9 := (e_9.trans (by first | rfl | simp [upd])).symm
            refine lv_istore (lv' := [(5, .int p3), (4, .int 3), (1, .int 0), (3, .int 4), (2, .ref h0), (0, .ref h0)]) hx hb dX11_isJoint_42 hl (by decide) rfl (fun ls hl => ?_)
            refine lv_iload_n hx hb dX11_isJoint_44 rfl (lv_at hl 2 rfl) ?_
            refine lv_iload hx hb dX11_isJoint_45 (lv_at hl 0 rfl) ?_
            refine lv_i2l (v := p3.toInt64) hx hb dX11_isJoint_47 rfl ?_
            refine lv_lconst (v := (0 : Int32).toInt64) hx hb dX11_isJoint_48 (by decide) ?_
            refine lv_ldc2 (v := 20) hx hb hown (hts _ (List.mem_cons_of_mem _ (List.mem_append_left _ (List.mem_of_getElem? (i := 0) rfl)))) dX11_isJoint_49 ?_
            refine lv_topl (fun z_9 e_9 => ?_)
            obtain rfl : (20 : Int32).toInt64 = z_9 := (e_9.trans (by decide)).symm
            have hPc := hP.sub (ws' := []) [] rfl
            have hDc := hD.sub (ws' := []) [] (by decide) rfl
            have hKc := hK.sub (tys' := []) [] rfl
            have hFc : ∀ q : Nat, H.size ≤ q → A q := fun q h => hA q (Nat.le_trans hS.1 h)
            refine va_calli (va_runS (As := [.long p3.toInt64, .long ((0 : Int32).toInt64), .long ((20 : Int32).toInt64)]) (rest := [.int 0]) ⟨hx, hb, hml, hown, hts⟩ (c_X11_isIn l dC dI e0 p3 0 20 H.size) (cwS 3 hts (goodIn_sub (fun _ h9 => List.mem_cons_of_mem _ (List.mem_append_right _ (h9))) (by decide +kernel)) rfl rfl rfl (by decide +kernel) ⟨(Nat.le_of_ble_eq_true rfl), (Nat.le_of_ble_eq_true rfl)⟩) ⟨fz_blind, fz_pre hPc hKc hDc hAm hS hFc⟩ rfl rfl hl.1 rfl (lv_room (Nat.le_of_ble_eq_true rfl)) dX11_isJoint_52 ⟨(Nat.le_of_ble_eq_true rfl), (Nat.le_of_ble_eq_true rfl)⟩) hS (fun q _ h => hFc q h) hFc (fun r u t H1 locs ht hvm hw hB hz1 hk1 hS => ?_)
            rcases hw with ⟨rfl, hp_55⟩ | ⟨rfl, hp_56⟩
            · have hP := fz_keep hP hk1
              generalize H1 = H at hP hS ⊢
              have hP : va_P (dC, dI) vwCl [(h0, .inl (cI, 4, .inl (upd (upd (upd (upd (fun _ => 0) (0 : Int32).toNatClampNeg p0) (1 : Int32).toNatClampNeg p1) (2 : Int32).toNatClampNeg p2) (3 : Int32).toNatClampNeg p3)))] H := hP
              refine W.widen (k := 0) (n := 0) (Nat.le_of_ble_eq_true rfl) (Nat.le_of_ble_eq_true rfl) ?_
              refine lv_iand hx hb dX11_isJoint_55 ?_
              refine lv_topi (fun z_9 e_9 => ?_)
              obtain rfl : 0 = z_9 := (e_9.trans (by decide)).symm
              refine lv_istore_n (lv' := [(1, .int 0), (5, .int p3), (4, .int 3), (3, .int 4), (2, .ref h0), (0, .ref h0)]) hx hb dX11_isJoint_56 rfl hl (by decide) rfl (fun ls hl => ?_)
              refine lv_iinc (v := 4) (lv' := [(4, .int 4), (1, .int 0), (5, .int p3), (3, .int 4), (2, .ref h0), (0, .ref h0)]) hx hb dX11_isJoint_57 hl (k := 2) rfl (by decide) (by decide) rfl (fun ls hl => ?_)
              refine lv_goto (tgt := 32) hx hb dX11_isJoint_60 (by decide) ?_
              refine lv_iload hx hb dX11_isJoint_32 (lv_at hl 0 rfl) ?_
              refine lv_iload_n hx hb dX11_isJoint_34 rfl (lv_at hl 3 rfl) ?_
              refine lv_icmp_ge (tgt := 63) hx hb dX11_isJoint_35 (by decide) (fun _ => ?_) (fun c_9 => absurd (by decide) c_9)
              refine lv_iload_n hx hb dX11_isJoint_63 rfl (lv_at hl 1 rfl) ?_
              refine W.widen (k := 0) (n := 0) (Nat.le_of_ble_eq_true rfl) (Nat.le_of_ble_eq_true rfl) ?_
              exact W.zret (v := 0) hx hb hr rfl (fun t ht hW => ⟨⟨0, (), rfl, Or.inr (⟨rfl, (q_c_X11_isJoint_26 c_1 c_32 hp_34 hp_49 hp_52 hp_55)⟩), trivial⟩, hS.F ht⟩) hS.2.2 dX11_isJoint_64
            · have hP := fz_keep hP hk1
              generalize H1 = H at hP hS ⊢
              have hP : va_P (dC, dI) vwCl [(h0, .inl (cI, 4, .inl (upd (upd (upd (upd (fun _ => 0) (0 : Int32).toNatClampNeg p0) (1 : Int32).toNatClampNeg p1) (2 : Int32).toNatClampNeg p2) (3 : Int32).toNatClampNeg p3)))] H := hP
              refine W.widen (k := 0) (n := 0) (Nat.le_of_ble_eq_true rfl) (Nat.le_of_ble_eq_true rfl) ?_
              refine lv_iand hx hb dX11_isJoint_55 ?_
              refine lv_topi (fun z_9 e_9 => ?_)
              obtain rfl : 0 = z_9 := (e_9.trans (by decide)).symm
              refine lv_istore_n (lv' := [(1, .int 0), (5, .int p3), (4, .int 3), (3, .int 4), (2, .ref h0), (0, .ref h0)]) hx hb dX11_isJoint_56 rfl hl (by decide) rfl (fun ls hl => ?_)
              refine lv_iinc (v := 4) (lv' := [(4, .int 4), (1, .int 0), (5, .int p3), (3, .int 4), (2, .ref h0), (0, .ref h0)]) hx hb dX11_isJoint_57 hl (k := 2) rfl (by decide) (by decide) rfl (fun ls hl => ?_)
              refine lv_goto (tgt := 32) hx hb dX11_isJoint_60 (by decide) ?_
              refine lv_iload hx hb dX11_isJoint_32 (lv_at hl 0 rfl) ?_
              refine lv_iload_n hx hb dX11_isJoint_34 rfl (lv_at hl 3 rfl) ?_
              refine lv_icmp_ge (tgt := 63) hx hb dX11_isJoint_35 (by decide) (fun _ => ?_) (fun c_9 => absurd (by decide) c_9)
              refine lv_iload_n hx hb dX11_isJoint_63 rfl (lv_at hl 1 rfl) ?_
              refine W.widen (k := 0) (n := 0) (Nat.le_of_ble_eq_true rfl) (Nat.le_of_ble_eq_true rfl) ?_
              exact W.zret (v := 0) hx hb hr rfl (fun t ht hW => ⟨⟨0, (), rfl, Or.inr (⟨rfl, (q_c_X11_isJoint_27 c_1 c_32 hp_34 hp_49 hp_52 hp_56)⟩), trivial⟩, hS.F ht⟩) hS.2.2 dX11_isJoint_64
        · have hP := fz_keep hP hk1
          generalize H1 = H at hP hS ⊢
          have hP : va_P (dC, dI) vwCl [(h0, .inl (cI, 4, .inl (upd (upd (upd (upd (fun _ => 0) (0 : Int32).toNatClampNeg p0) (1 : Int32).toNatClampNeg p1) (2 : Int32).toNatClampNeg p2) (3 : Int32).toNatClampNeg p3)))] H := hP
          refine W.widen (k := 0) (n := 0) (Nat.le_of_ble_eq_true rfl) (Nat.le_of_ble_eq_true rfl) ?_
          refine lv_iand hx hb dX11_isJoint_55 ?_
          refine lv_topi (fun z_9 e_9 => ?_)
          obtain rfl : 0 = z_9 := (e_9.trans (by decide)).symm
          refine lv_istore_n (lv' := [(1, .int 0), (5, .int p1), (4, .int 1), (3, .int 4), (2, .ref h0), (0, .ref h0)]) hx hb dX11_isJoint_56 rfl hl (by decide) rfl (fun ls hl => ?_)
          refine lv_iinc (v := 2) (lv' := [(4, .int 2), (1, .int 0), (5, .int p1), (3, .int 4), (2, .ref h0), (0, .ref h0)]) hx hb dX11_isJoint_57 hl (k := 2) rfl (by decide) (by decide) rfl (fun ls hl => ?_)
          refine lv_goto (tgt := 32) hx hb dX11_isJoint_60 (by decide) ?_
          refine lv_iload hx hb dX11_isJoint_32 (lv_at hl 0 rfl) ?_
          refine lv_iload_n hx hb dX11_isJoint_34 rfl (lv_at hl 3 rfl) ?_
          refine lv_icmp_ge (tgt := 63) hx hb dX11_isJoint_35 (by decide) (fun c_9 => absurd c_9 (by decide)) (fun _ => ?_)
          refine lv_aload_n hx hb dX11_isJoint_38 rfl (lv_at hl 4 rfl) ?_
          refine lv_iload hx hb dX11_isJoint_39 (lv_at hl 0 rfl) ?_
          refine va_iald hx hb hK hP 0 0 rfl rfl (fz_il (by decide)) dX11_isJoint_41 ?_
          refine lv_topi (fun z_9 e_9 => ?_)
          obtain rfl : p2 = z_9 := (e_9.trans (by first | rfl | simp [upd])).symm
          refine lv_istore (lv' := [(5, .int p2), (4, .int 2), (1, .int 0), (3, .int 4), (2, .ref h0), (0, .ref h0)]) hx hb dX11_isJoint_42 hl (by decide) rfl (fun ls hl => ?_)
          refine lv_iload_n hx hb dX11_isJoint_44 rfl (lv_at hl 2 rfl) ?_
          refine lv_iload hx hb dX11_isJoint_45 (lv_at hl 0 rfl) ?_
          refine lv_i2l (v := p2.toInt64) hx hb dX11_isJoint_47 rfl ?_
          refine lv_lconst (v := (0 : Int32).toInt64) hx hb dX11_isJoint_48 (by decide) ?_
          refine lv_ldc2 (v := 20) hx hb hown (hts _ (List.mem_cons_of_mem _ (List.mem_append_left _ (List.mem_of_getElem? (i := 0) rfl)))) dX11_isJoint_49 ?_
          refine lv_topl (fun z_9 e_9 => ?_)
          obtain rfl : (20 : Int32).toInt64 = z_9 := (e_9.trans (by decide)).symm
          have hPc := hP.sub (ws' := []) [] rfl
          have hDc := hD.sub (ws' := []) [] (by decide) rfl
          have hKc := hK.sub (tys' := []) [] rfl
          have hFc : ∀ q : Nat, H.size ≤ q → A q := fun q h => hA q (Nat.le_trans hS.1 h)
          refine va_calli (va_runS (As := [.long p2.toInt64, .long ((0 : Int32).toInt64), .long ((20 : Int32).toInt64)]) (rest := [.int 0]) ⟨hx, hb, hml, hown, hts⟩ (c_X11_isIn l dC dI e0 p2 0 20 H.size) (cwS 3 hts (goodIn_sub (fun _ h9 => List.mem_cons_of_mem _ (List.mem_append_right _ (h9))) (by decide +kernel)) rfl rfl rfl (by decide +kernel) ⟨(Nat.le_of_ble_eq_true rfl), (Nat.le_of_ble_eq_true rfl)⟩) ⟨fz_blind, fz_pre hPc hKc hDc hAm hS hFc⟩ rfl rfl hl.1 rfl (lv_room (Nat.le_of_ble_eq_true rfl)) dX11_isJoint_52 ⟨(Nat.le_of_ble_eq_true rfl), (Nat.le_of_ble_eq_true rfl)⟩) hS (fun q _ h => hFc q h) hFc (fun r u t H1 locs ht hvm hw hB hz1 hk1 hS => ?_)
          rcases hw with ⟨rfl, hp_57⟩ | ⟨rfl, hp_58⟩
          · have hP := fz_keep hP hk1
            generalize H1 = H at hP hS ⊢
            have hP : va_P (dC, dI) vwCl [(h0, .inl (cI, 4, .inl (upd (upd (upd (upd (fun _ => 0) (0 : Int32).toNatClampNeg p0) (1 : Int32).toNatClampNeg p1) (2 : Int32).toNatClampNeg p2) (3 : Int32).toNatClampNeg p3)))] H := hP
            refine W.widen (k := 0) (n := 0) (Nat.le_of_ble_eq_true rfl) (Nat.le_of_ble_eq_true rfl) ?_
            refine lv_iand hx hb dX11_isJoint_55 ?_
            refine lv_topi (fun z_9 e_9 => ?_)
            obtain rfl : 0 = z_9 := (e_9.trans (by decide)).symm
            refine lv_istore_n (lv' := [(1, .int 0), (5, .int p2), (4, .int 2), (3, .int 4), (2, .ref h0), (0, .ref h0)]) hx hb dX11_isJoint_56 rfl hl (by decide) rfl (fun ls hl => ?_)
            refine lv_iinc (v := 3) (lv' := [(4, .int 3), (1, .int 0), (5, .int p2), (3, .int 4), (2, .ref h0), (0, .ref h0)]) hx hb dX11_isJoint_57 hl (k := 2) rfl (by decide) (by decide) rfl (fun ls hl => ?_)
            refine lv_goto (tgt := 32) hx hb dX11_isJoint_60 (by decide) ?_
            refine lv_iload hx hb dX11_isJoint_32 (lv_at hl 0 rfl) ?_
            refine lv_iload_n hx hb dX11_isJoint_34 rfl (lv_at hl 3 rfl) ?_
            refine lv_icmp_ge (tgt := 63) hx hb dX11_isJoint_35 (by decide) (fun c_9 => absurd c_9 (by decide)) (fun _ => ?_)
            refine lv_aload_n hx hb dX11_isJoint_38 rfl (lv_at hl 4 rfl) ?_
            refine lv_iload hx hb dX11_isJoint_39 (lv_at hl 0 rfl) ?_
            refine va_iald hx hb hK hP 0 0 rfl rfl (fz_il (by decide)) dX11_isJoint_41 ?_
            refine lv_topi (fun z_9 e_9 => ?_)
            obtain rfl : p3 = z_9 := (e_9.trans (by first | rfl | simp [upd])).symm
            refine lv_istore (lv' := [(5, .int p3), (4, .int 3), (1, .int 0), (3, .int 4), (2, .ref h0), (0, .ref h0)]) hx hb dX11_isJoint_42 hl (by decide) rfl (fun ls hl => ?_)
            refine lv_iload_n hx hb dX11_isJoint_44 rfl (lv_at hl 2 rfl) ?_
            refine lv_iload hx hb dX11_isJoint_45 (lv_at hl 0 rfl) ?_
            refine lv_i2l (v := p3.toInt64) hx hb dX11_isJoint_47 rfl ?_
            refine lv_lconst (v := (0 : Int32).toInt64) hx hb dX11_isJoint_48 (by decide) ?_
            refine lv_ldc2 (v := 20) hx hb hown (hts _ (List.mem_cons_of_mem _ (List.mem_append_left _ (List.mem_of_getElem? (i := 0) rfl)))) dX11_isJoint_49 ?_
            refine lv_topl (fun z_9 e_9 => ?_)
            obtain rfl : (20 : Int32).toInt64 = z_9 := (e_9.trans (by decide)).symm
            have hPc := hP.sub (ws' := []) [] rfl
            have hDc := hD.sub (ws' := []) [] (by decide) rfl
            have hKc := hK.sub (tys' := []) [] rfl
            have hFc : ∀ q : Nat, H.size ≤ q → A q := fun q h => hA q (Nat.le_trans hS.1 h)
            refine va_calli (va_runS (As := [.long p3.toInt64, .long ((0 : Int32).toInt64), .long ((20 : Int32).toInt64)]) (rest := [.int 0]) ⟨hx, hb, hml, hown, hts⟩ (c_X11_isIn l dC dI e0 p3 0 20 H.size) (cwS 3 hts (goodIn_sub (fun _ h9 => List.mem_cons_of_mem _ (List.mem_append_right _ (h9))) (by decide +kernel)) rfl rfl rfl (by decide +kernel) ⟨(Nat.le_of_ble_eq_true rfl), (Nat.le_of_ble_eq_true rfl)⟩) ⟨fz_blind, fz_pre hPc hKc hDc hAm hS hFc⟩ rfl rfl hl.1 rfl (lv_room (Nat.le_of_ble_eq_true rfl)) dX11_isJoint_52 ⟨(Nat.le_of_ble_eq_true rfl), (Nat.le_of_ble_eq_true rfl)⟩) hS (fun q _ h => hFc q h) hFc (fun r u t H1 locs ht hvm hw hB hz1 hk1 hS => ?_)
            rcases hw with ⟨rfl, hp_59⟩ | ⟨rfl, hp_60⟩
            · have hP := fz_keep hP hk1
              generalize H1 = H at hP hS ⊢
              have hP : va_P (dC, dI) vwCl [(h0, .inl (cI, 4, .inl (upd (upd (upd (upd (fun _ => 0) (0 : Int32).toNatClampNeg p0) (1 : Int32).toNatClampNeg p1) (2 : Int32).toNatClampNeg p2) (3 : Int32).toNatClampNeg p3)))] H := hP
              refine W.widen (k := 0) (n := 0) (Nat.le_of_ble_eq_true rfl) (Nat.le_of_ble_eq_true rfl) ?_
              refine lv_iand hx hb dX11_isJoint_55 ?_
              refine lv_topi (fun z_9 e_9 => ?_)
              obtain rfl : 0 = z_9 := (e_9.trans (by decide)).symm
              refine lv_istore_n (lv' := [(1, .int 0), (5, .int p3), (4, .int 3), (3, .int 4), (2, .ref h0), (0, .ref h0)]) hx hb dX11_isJoint_56 rfl hl (by decide) rfl (fun ls hl => ?_)
              refine lv_iinc (v := 4) (lv' := [(4, .int 4), (1, .int 0), (5, .int p3), (3, .int 4), (2, .ref h0), (0, .ref h0)]) hx hb dX11_isJoint_57 hl (k := 2) rfl (by decide) (by decide) rfl (fun ls hl => ?_)
              refine lv_goto (tgt := 32) hx hb dX11_isJoint_60 (by decide) ?_
              refine lv_iload hx hb dX11_isJoint_32 (lv_at hl 0 rfl) ?_
              refine lv_iload_n hx hb dX11_isJoint_34 rfl (lv_at hl 3 rfl) ?_
              refine lv_icmp_ge (tgt := 63) hx hb dX11_isJoint_35 (by decide) (fun _ => ?_) (fun c_9 => absurd (by decide) c_9)
              refine lv_iload_n hx hb dX11_isJoint_63 rfl (lv_at hl 1 rfl) ?_
              refine W.widen (k := 0) (n := 0) (Nat.le_of_ble_eq_true rfl) (Nat.le_of_ble_eq_true rfl) ?_
              exact W.zret (v := 0) hx hb hr rfl (fun t ht hW => ⟨⟨0, (), rfl, Or.inr (⟨rfl, (q_c_X11_isJoint_28 c_1 c_32 hp_34 hp_50 hp_57 hp_59)⟩), trivial⟩, hS.F ht⟩) hS.2.2 dX11_isJoint_64
            · have hP := fz_keep hP hk1
              generalize H1 = H at hP hS ⊢
              have hP : va_P (dC, dI) vwCl [(h0, .inl (cI, 4, .inl (upd (upd (upd (upd (fun _ => 0) (0 : Int32).toNatClampNeg p0) (1 : Int32).toNatClampNeg p1) (2 : Int32).toNatClampNeg p2) (3 : Int32).toNatClampNeg p3)))] H := hP
              refine W.widen (k := 0) (n := 0) (Nat.le_of_ble_eq_true rfl) (Nat.le_of_ble_eq_true rfl) ?_
              refine lv_iand hx hb dX11_isJoint_55 ?_
              refine lv_topi (fun z_9 e_9 => ?_)
              obtain rfl : 0 = z_9 := (e_9.trans (by decide)).symm
              refine lv_istore_n (lv' := [(1, .int 0), (5, .int p3), (4, .int 3), (3, .int 4), (2, .ref h0), (0, .ref h0)]) hx hb dX11_isJoint_56 rfl hl (by decide) rfl (fun ls hl => ?_)
              refine lv_iinc (v := 4) (lv' := [(4, .int 4), (1, .int 0), (5, .int p3), (3, .int 4), (2, .ref h0), (0, .ref h0)]) hx hb dX11_isJoint_57 hl (k := 2) rfl (by decide) (by decide) rfl (fun ls hl => ?_)
              refine lv_goto (tgt := 32) hx hb dX11_isJoint_60 (by decide) ?_
              refine lv_iload hx hb dX11_isJoint_32 (lv_at hl 0 rfl) ?_
              refine lv_iload_n hx hb dX11_isJoint_34 rfl (lv_at hl 3 rfl) ?_
              refine lv_icmp_ge (tgt := 63) hx hb dX11_isJoint_35 (by decide) (fun _ => ?_) (fun c_9 => absurd (by decide) c_9)
              refine lv_iload_n hx hb dX11_isJoint_63 rfl (lv_at hl 1 rfl) ?_
              refine W.widen (k := 0) (n := 0) (Nat.le_of_ble_eq_true rfl) (Nat.le_of_ble_eq_true rfl) ?_
              exact W.zret (v := 0) hx hb hr rfl (fun t ht hW => ⟨⟨0, (), rfl, Or.inr (⟨rfl, (q_c_X11_isJoint_29 c_1 c_32 hp_34 hp_50 hp_57 hp_60)⟩), trivial⟩, hS.F ht⟩) hS.2.2 dX11_isJoint_64
          · have hP := fz_keep hP hk1
            generalize H1 = H at hP hS ⊢
            have hP : va_P (dC, dI) vwCl [(h0, .inl (cI, 4, .inl (upd (upd (upd (upd (fun _ => 0) (0 : Int32).toNatClampNeg p0) (1 : Int32).toNatClampNeg p1) (2 : Int32).toNatClampNeg p2) (3 : Int32).toNatClampNeg p3)))] H := hP
            refine W.widen (k := 0) (n := 0) (Nat.le_of_ble_eq_true rfl) (Nat.le_of_ble_eq_true rfl) ?_
            refine lv_iand hx hb dX11_isJoint_55 ?_
            refine lv_topi (fun z_9 e_9 => ?_)
            obtain rfl : 0 = z_9 := (e_9.trans (by decide)).symm
            refine lv_istore_n (lv' := [(1, .int 0), (5, .int p2), (4, .int 2), (3, .int 4), (2, .ref h0), (0, .ref h0)]) hx hb dX11_isJoint_56 rfl hl (by decide) rfl (fun ls hl => ?_)
            refine lv_iinc (v := 3) (lv' := [(4, .int 3), (1, .int 0), (5, .int p2), (3, .int 4), (2, .ref h0), (0, .ref h0)]) hx hb dX11_isJoint_57 hl (k := 2) rfl (by decide) (by decide) rfl (fun ls hl => ?_)
            refine lv_goto (tgt := 32) hx hb dX11_isJoint_60 (by decide) ?_
            refine lv_iload hx hb dX11_isJoint_32 (lv_at hl 0 rfl) ?_
            refine lv_iload_n hx hb dX11_isJoint_34 rfl (lv_at hl 3 rfl) ?_
            refine lv_icmp_ge (tgt := 63) hx hb dX11_isJoint_35 (by decide) (fun c_9 => absurd c_9 (by decide)) (fun _ => ?_)
            refine lv_aload_n hx hb dX11_isJoint_38 rfl (lv_at hl 4 rfl) ?_
            refine lv_iload hx hb dX11_isJoint_39 (lv_at hl 0 rfl) ?_
            refine va_iald hx hb hK hP 0 0 rfl rfl (fz_il (by decide)) dX11_isJoint_41 ?_
            refine lv_topi (fun z_9 e_9 => ?_)
            obtain rfl : p3 = z_9 := (e_9.trans (by first | rfl | simp [upd])).symm
            refine lv_istore (lv' := [(5, .int p3), (4, .int 3), (1, .int 0), (3, .int 4), (2, .ref h0), (0, .ref h0)]) hx hb dX11_isJoint_42 hl (by decide) rfl (fun ls hl => ?_)
            refine lv_iload_n hx hb dX11_isJoint_44 rfl (lv_at hl 2 rfl) ?_
            refine lv_iload hx hb dX11_isJoint_45 (lv_at hl 0 rfl) ?_
            refine lv_i2l (v := p3.toInt64) hx hb dX11_isJoint_47 rfl ?_
            refine lv_lconst (v := (0 : Int32).toInt64) hx hb dX11_isJoint_48 (by decide) ?_
            refine lv_ldc2 (v := 20) hx hb hown (hts _ (List.mem_cons_of_mem _ (List.mem_append_left _ (List.mem_of_getElem? (i := 0) rfl)))) dX11_isJoint_49 ?_
            refine lv_topl (fun z_9 e_9 => ?_)
            obtain rfl : (20 : Int32).toInt64 = z_9 := (e_9.trans (by decide)).symm
            have hPc := hP.sub (ws' := []) [] rfl
            have hDc := hD.sub (ws' := []) [] (by decide) rfl
            have hKc := hK.sub (tys' := []) [] rfl
            have hFc : ∀ q : Nat, H.size ≤ q → A q := fun q h => hA q (Nat.le_trans hS.1 h)
            refine va_calli (va_runS (As := [.long p3.toInt64, .long ((0 : Int32).toInt64), .long ((20 : Int32).toInt64)]) (rest := [.int 0]) ⟨hx, hb, hml, hown, hts⟩ (c_X11_isIn l dC dI e0 p3 0 20 H.size) (cwS 3 hts (goodIn_sub (fun _ h9 => List.mem_cons_of_mem _ (List.mem_append_right _ (h9))) (by decide +kernel)) rfl rfl rfl (by decide +kernel) ⟨(Nat.le_of_ble_eq_true rfl), (Nat.le_of_ble_eq_true rfl)⟩) ⟨fz_blind, fz_pre hPc hKc hDc hAm hS hFc⟩ rfl rfl hl.1 rfl (lv_room (Nat.le_of_ble_eq_true rfl)) dX11_isJoint_52 ⟨(Nat.le_of_ble_eq_true rfl), (Nat.le_of_ble_eq_true rfl)⟩) hS (fun q _ h => hFc q h) hFc (fun r u t H1 locs ht hvm hw hB hz1 hk1 hS => ?_)
            rcases hw with ⟨rfl, hp_61⟩ | ⟨rfl, hp_62⟩
            · have hP := fz_keep hP hk1
              generalize H1 = H at hP hS ⊢
              have hP : va_P (dC, dI) vwCl [(h0, .inl (cI, 4, .inl (upd (upd (upd (upd (fun _ => 0) (0 : Int32).toNatClampNeg p0) (1 : Int32).toNatClampNeg p1) (2 : Int32).toNatClampNeg p2) (3 : Int32).toNatClampNeg p3)))] H := hP
              refine W.widen (k := 0) (n := 0) (Nat.le_of_ble_eq_true rfl) (Nat.le_of_ble_eq_true rfl) ?_
              refine lv_iand hx hb dX11_isJoint_55 ?_
              refine lv_topi (fun z_9 e_9 => ?_)
              obtain rfl : 0 = z_9 := (e_9.trans (by decide)).symm
              refine lv_istore_n (lv' := [(1, .int 0), (5, .int p3), (4, .int 3), (3, .int 4), (2, .ref h0), (0, .ref h0)]) hx hb dX11_isJoint_56 rfl hl (by decide) rfl (fun ls hl => ?_)
              refine lv_iinc (v := 4) (lv' := [(4, .int 4), (1, .int 0), (5, .int p3), (3, .int 4), (2, .ref h0), (0, .ref h0)]) hx hb dX11_isJoint_57 hl (k := 2) rfl (by decide) (by decide) rfl (fun ls hl => ?_)
              refine lv_goto (tgt := 32) hx hb dX11_isJoint_60 (by decide) ?_
              refine lv_iload hx hb dX11_isJoint_32 (lv_at hl 0 rfl) ?_
              refine lv_iload_n hx hb dX11_isJoint_34 rfl (lv_at hl 3 rfl) ?_
              refine lv_icmp_ge (tgt := 63) hx hb dX11_isJoint_35 (by decide) (fun _ => ?_) (fun c_9 => absurd (by decide) c_9)
              refine lv_iload_n hx hb dX11_isJoint_63 rfl (lv_at hl 1 rfl) ?_
              refine W.widen (k := 0) (n := 0) (Nat.le_of_ble_eq_true rfl) (Nat.le_of_ble_eq_true rfl) ?_
              exact W.zret (v := 0) hx hb hr rfl (fun t ht hW => ⟨⟨0, (), rfl, Or.inr (⟨rfl, (q_c_X11_isJoint_30 c_1 c_32 hp_34 hp_50 hp_58 hp_61)⟩), trivial⟩, hS.F ht⟩) hS.2.2 dX11_isJoint_64
            · have hP := fz_keep hP hk1
              generalize H1 = H at hP hS ⊢
              have hP : va_P (dC, dI) vwCl [(h0, .inl (cI, 4, .inl (upd (upd (upd (upd (fun _ => 0) (0 : Int32).toNatClampNeg p0) (1 : Int32).toNatClampNeg p1) (2 : Int32).toNatClampNeg p2) (3 : Int32).toNatClampNeg p3)))] H := hP
              refine W.widen (k := 0) (n := 0) (Nat.le_of_ble_eq_true rfl) (Nat.le_of_ble_eq_true rfl) ?_
              refine lv_iand hx hb dX11_isJoint_55 ?_
              refine lv_topi (fun z_9 e_9 => ?_)
              obtain rfl : 0 = z_9 := (e_9.trans (by decide)).symm
              refine lv_istore_n (lv' := [(1, .int 0), (5, .int p3), (4, .int 3), (3, .int 4), (2, .ref h0), (0, .ref h0)]) hx hb dX11_isJoint_56 rfl hl (by decide) rfl (fun ls hl => ?_)
              refine lv_iinc (v := 4) (lv' := [(4, .int 4), (1, .int 0), (5, .int p3), (3, .int 4), (2, .ref h0), (0, .ref h0)]) hx hb dX11_isJoint_57 hl (k := 2) rfl (by decide) (by decide) rfl (fun ls hl => ?_)
              refine lv_goto (tgt := 32) hx hb dX11_isJoint_60 (by decide) ?_
              refine lv_iload hx hb dX11_isJoint_32 (lv_at hl 0 rfl) ?_
              refine lv_iload_n hx hb dX11_isJoint_34 rfl (lv_at hl 3 rfl) ?_
              refine lv_icmp_ge (tgt := 63) hx hb dX11_isJoint_35 (by decide) (fun _ => ?_) (fun c_9 => absurd (by decide) c_9)
              refine lv_iload_n hx hb dX11_isJoint_63 rfl (lv_at hl 1 rfl) ?_
              refine W.widen (k := 0) (n := 0) (Nat.le_of_ble_eq_true rfl) (Nat.le_of_ble_eq_true rfl) ?_
              exact W.zret (v := 0) hx hb hr rfl (fun t ht hW => ⟨⟨0, (), rfl, Or.inr (⟨rfl, (q_c_X11_isJoint_31 c_1 c_32 hp_34 hp_50 hp_58 hp_62)⟩), trivial⟩, hS.F ht⟩) hS.2.2 dX11_isJoint_64
    · refine lv_iconst (v := 1) hx hb dX11_isJoint_18 (by decide) ?_
      refine lv_goto (tgt := 23) hx hb dX11_isJoint_19 (by decide) ?_
      refine lv_istore_n (lv' := [(1, .int 1), (0, .ref h0)]) hx hb dX11_isJoint_23 rfl hl (by decide) rfl (fun ls hl => ?_)
      refine lv_aload_n hx hb dX11_isJoint_24 rfl (lv_at hl 1 rfl) ?_
      refine lv_astore_n (lv' := [(2, .ref h0), (1, .int 1), (0, .ref h0)]) hx hb dX11_isJoint_25 rfl hl (by decide) rfl (fun ls hl => ?_)
      refine lv_aload_n hx hb dX11_isJoint_26 rfl (lv_at hl 0 rfl) ?_
      refine va_alen hx hb hK hP 0 0 rfl rfl (v := 4) rfl dX11_isJoint_27 ?_
      refine lv_istore_n (lv' := [(3, .int 4), (2, .ref h0), (1, .int 1), (0, .ref h0)]) hx hb dX11_isJoint_28 rfl hl (by decide) rfl (fun ls hl => ?_)
      refine lv_iconst (v := 0) hx hb dX11_isJoint_29 (by decide) ?_
      refine lv_istore (lv' := [(4, .int 0), (3, .int 4), (2, .ref h0), (1, .int 1), (0, .ref h0)]) hx hb dX11_isJoint_30 hl (by decide) rfl (fun ls hl => ?_)
      refine lv_iload hx hb dX11_isJoint_32 (lv_at hl 0 rfl) ?_
      refine lv_iload_n hx hb dX11_isJoint_34 rfl (lv_at hl 1 rfl) ?_
      refine lv_icmp_ge (tgt := 63) hx hb dX11_isJoint_35 (by decide) (fun c_9 => absurd c_9 (by decide)) (fun _ => ?_)
      refine lv_aload_n hx hb dX11_isJoint_38 rfl (lv_at hl 2 rfl) ?_
      refine lv_iload hx hb dX11_isJoint_39 (lv_at hl 0 rfl) ?_
      refine va_iald hx hb hK hP 0 0 rfl rfl (fz_il (by decide)) dX11_isJoint_41 ?_
      refine lv_topi (fun z_9 e_9 => ?_)
      obtain rfl : p0 = z_9 := (e_9.trans (by first | rfl | simp [upd])).symm
      refine lv_istore (lv' := [(5, .int p0), (4, .int 0), (3, .int 4), (2, .ref h0), (1, .int 1), (0, .ref h0)]) hx hb dX11_isJoint_42 hl (by decide) rfl (fun ls hl => ?_)
      refine lv_iload_n hx hb dX11_isJoint_44 rfl (lv_at hl 4 rfl) ?_
      refine lv_iload hx hb dX11_isJoint_45 (lv_at hl 0 rfl) ?_
      refine lv_i2l (v := p0.toInt64) hx hb dX11_isJoint_47 rfl ?_
      refine lv_lconst (v := (0 : Int32).toInt64) hx hb dX11_isJoint_48 (by decide) ?_
      refine lv_ldc2 (v := 20) hx hb hown (hts _ (List.mem_cons_of_mem _ (List.mem_append_left _ (List.mem_of_getElem? (i := 0) rfl)))) dX11_isJoint_49 ?_
      refine lv_topl (fun z_9 e_9 => ?_)
      obtain rfl : (20 : Int32).toInt64 = z_9 := (e_9.trans (by decide)).symm
      have hPc := hP.sub (ws' := []) [] rfl
      have hDc := hD.sub (ws' := []) [] (by decide) rfl
      have hKc := hK.sub (tys' := []) [] rfl
      have hFc : ∀ q : Nat, s.heap.size ≤ q → A q := fun q h => hA q (Nat.le_trans hS.1 h)
      refine va_calli (va_runS (As := [.long p0.toInt64, .long ((0 : Int32).toInt64), .long ((20 : Int32).toInt64)]) (rest := [.int 1]) ⟨hx, hb, hml, hown, hts⟩ (c_X11_isIn l dC dI e0 p0 0 20 s.heap.size) (cwS 3 hts (goodIn_sub (fun _ h9 => List.mem_cons_of_mem _ (List.mem_append_right _ (h9))) (by decide +kernel)) rfl rfl rfl (by decide +kernel) ⟨(Nat.le_of_ble_eq_true rfl), (Nat.le_of_ble_eq_true rfl)⟩) ⟨fz_blind, fz_pre hPc hKc hDc hAm hS hFc⟩ rfl rfl hl.1 rfl (lv_room (Nat.le_of_ble_eq_true rfl)) dX11_isJoint_52 ⟨(Nat.le_of_ble_eq_true rfl), (Nat.le_of_ble_eq_true rfl)⟩) hS (fun q _ h => hFc q h) hFc (fun r u t H1 locs ht hvm hw hB hz1 hk1 hS => ?_)
      rcases hw with ⟨rfl, hp_63⟩ | ⟨rfl, hp_64⟩
      · have hP := fz_keep hP hk1
        generalize H1 = H at hP hS ⊢
        have hP : va_P (dC, dI) vwCl [(h0, .inl (cI, 4, .inl (upd (upd (upd (upd (fun _ => 0) (0 : Int32).toNatClampNeg p0) (1 : Int32).toNatClampNeg p1) (2 : Int32).toNatClampNeg p2) (3 : Int32).toNatClampNeg p3)))] H := hP
        refine W.widen (k := 0) (n := 0) (Nat.le_of_ble_eq_true rfl) (Nat.le_of_ble_eq_true rfl) ?_
        refine lv_iand hx hb dX11_isJoint_55 ?_
        refine lv_topi (fun z_9 e_9 => ?_)
        obtain rfl : 1 = z_9 := (e_9.trans (by decide)).symm
        refine lv_istore_n (lv' := [(1, .int 1), (5, .int p0), (4, .int 0), (3, .int 4), (2, .ref h0), (0, .ref h0)]) hx hb dX11_isJoint_56 rfl hl (by decide) rfl (fun ls hl => ?_)
        refine lv_iinc (v := 1) (lv' := [(4, .int 1), (1, .int 1), (5, .int p0), (3, .int 4), (2, .ref h0), (0, .ref h0)]) hx hb dX11_isJoint_57 hl (k := 2) rfl (by decide) (by decide) rfl (fun ls hl => ?_)
        refine lv_goto (tgt := 32) hx hb dX11_isJoint_60 (by decide) ?_
        refine lv_iload hx hb dX11_isJoint_32 (lv_at hl 0 rfl) ?_
        refine lv_iload_n hx hb dX11_isJoint_34 rfl (lv_at hl 3 rfl) ?_
        refine lv_icmp_ge (tgt := 63) hx hb dX11_isJoint_35 (by decide) (fun c_9 => absurd c_9 (by decide)) (fun _ => ?_)
        refine lv_aload_n hx hb dX11_isJoint_38 rfl (lv_at hl 4 rfl) ?_
        refine lv_iload hx hb dX11_isJoint_39 (lv_at hl 0 rfl) ?_
        refine va_iald hx hb hK hP 0 0 rfl rfl (fz_il (by decide)) dX11_isJoint_41 ?_
        refine lv_topi (fun z_9 e_9 => ?_)
        obtain rfl : p1 = z_9 := (e_9.trans (by first | rfl | simp [upd])).symm
        refine lv_istore (lv' := [(5, .int p1), (4, .int 1), (1, .int 1), (3, .int 4), (2, .ref h0), (0, .ref h0)]) hx hb dX11_isJoint_42 hl (by decide) rfl (fun ls hl => ?_)
        refine lv_iload_n hx hb dX11_isJoint_44 rfl (lv_at hl 2 rfl) ?_
        refine lv_iload hx hb dX11_isJoint_45 (lv_at hl 0 rfl) ?_
        refine lv_i2l (v := p1.toInt64) hx hb dX11_isJoint_47 rfl ?_
        refine lv_lconst (v := (0 : Int32).toInt64) hx hb dX11_isJoint_48 (by decide) ?_
        refine lv_ldc2 (v := 20) hx hb hown (hts _ (List.mem_cons_of_mem _ (List.mem_append_left _ (List.mem_of_getElem? (i := 0) rfl)))) dX11_isJoint_49 ?_
        refine lv_topl (fun z_9 e_9 => ?_)
        obtain rfl : (20 : Int32).toInt64 = z_9 := (e_9.trans (by decide)).symm
        have hPc := hP.sub (ws' := []) [] rfl
        have hDc := hD.sub (ws' := []) [] (by decide) rfl
        have hKc := hK.sub (tys' := []) [] rfl
        have hFc : ∀ q : Nat, H.size ≤ q → A q := fun q h => hA q (Nat.le_trans hS.1 h)
        refine va_calli (va_runS (As := [.long p1.toInt64, .long ((0 : Int32).toInt64), .long ((20 : Int32).toInt64)]) (rest := [.int 1]) ⟨hx, hb, hml, hown, hts⟩ (c_X11_isIn l dC dI e0 p1 0 20 H.size) (cwS 3 hts (goodIn_sub (fun _ h9 => List.mem_cons_of_mem _ (List.mem_append_right _ (h9))) (by decide +kernel)) rfl rfl rfl (by decide +kernel) ⟨(Nat.le_of_ble_eq_true rfl), (Nat.le_of_ble_eq_true rfl)⟩) ⟨fz_blind, fz_pre hPc hKc hDc hAm hS hFc⟩ rfl rfl hl.1 rfl (lv_room (Nat.le_of_ble_eq_true rfl)) dX11_isJoint_52 ⟨(Nat.le_of_ble_eq_true rfl), (Nat.le_of_ble_eq_true rfl)⟩) hS (fun q _ h => hFc q h) hFc (fun r u t H1 locs ht hvm hw hB hz1 hk1 hS => ?_)
        rcases hw with ⟨rfl, hp_65⟩ | ⟨rfl, hp_66⟩
        · have hP := fz_keep hP hk1
          generalize H1 = H at hP hS ⊢
          have hP : va_P (dC, dI) vwCl [(h0, .inl (cI, 4, .inl (upd (upd (upd (upd (fun _ => 0) (0 : Int32).toNatClampNeg p0) (1 : Int32).toNatClampNeg p1) (2 : Int32).toNatClampNeg p2) (3 : Int32).toNatClampNeg p3)))] H := hP
          refine W.widen (k := 0) (n := 0) (Nat.le_of_ble_eq_true rfl) (Nat.le_of_ble_eq_true rfl) ?_
          refine lv_iand hx hb dX11_isJoint_55 ?_
          refine lv_topi (fun z_9 e_9 => ?_)
          obtain rfl : 1 = z_9 := (e_9.trans (by decide)).symm
          refine lv_istore_n (lv' := [(1, .int 1), (5, .int p1), (4, .int 1), (3, .int 4), (2, .ref h0), (0, .ref h0)]) hx hb dX11_isJoint_56 rfl hl (by decide) rfl (fun ls hl => ?_)
          refine lv_iinc (v := 2) (lv' := [(4, .int 2), (1, .int 1), (5, .int p1), (3, .int 4), (2, .ref h0), (0, .ref h0)]) hx hb dX11_isJoint_57 hl (k := 2) rfl (by decide) (by decide) rfl (fun ls hl => ?_)
          refine lv_goto (tgt := 32) hx hb dX11_isJoint_60 (by decide) ?_
          refine lv_iload hx hb dX11_isJoint_32 (lv_at hl 0 rfl) ?_
          refine lv_iload_n hx hb dX11_isJoint_34 rfl (lv_at hl 3 rfl) ?_
          refine lv_icmp_ge (tgt := 63) hx hb dX11_isJoint_35 (by decide) (fun c_9 => absurd c_9 (by decide)) (fun _ => ?_)
          refine lv_aload_n hx hb dX11_isJoint_38 rfl (lv_at hl 4 rfl) ?_
          refine lv_iload hx hb dX11_isJoint_39 (lv_at hl 0 rfl) ?_
          refine va_iald hx hb hK hP 0 0 rfl rfl (fz_il (by decide)) dX11_isJoint_41 ?_
          refine lv_topi (fun z_9 e_9 => ?_)
          obtain rfl : p2 = z_9 := (e_9.trans (by first | rfl | simp [upd])).symm
          refine lv_istore (lv' := [(5, .int p2), (4, .int 2), (1, .int 1), (3, .int 4), (2, .ref h0), (0, .ref h0)]) hx hb dX11_isJoint_42 hl (by decide) rfl (fun ls hl => ?_)
          refine lv_iload_n hx hb dX11_isJoint_44 rfl (lv_at hl 2 rfl) ?_
          refine lv_iload hx hb dX11_isJoint_45 (lv_at hl 0 rfl) ?_
          refine lv_i2l (v := p2.toInt64) hx hb dX11_isJoint_47 rfl ?_
          refine lv_lconst (v := (0 : Int32).toInt64) hx hb dX11_isJoint_48 (by decide) ?_
          refine lv_ldc2 (v := 20) hx hb hown (hts _ (List.mem_cons_of_mem _ (List.mem_append_left _ (List.mem_of_getElem? (i := 0) rfl)))) dX11_isJoint_49 ?_
          refine lv_topl (fun z_9 e_9 => ?_)
          obtain rfl : (20 : Int32).toInt64 = z_9 := (e_9.trans (by decide)).symm
          have hPc := hP.sub (ws' := []) [] rfl
          have hDc := hD.sub (ws' := []) [] (by decide) rfl
          have hKc := hK.sub (tys' := []) [] rfl
          have hFc : ∀ q : Nat, H.size ≤ q → A q := fun q h => hA q (Nat.le_trans hS.1 h)
          refine va_calli (va_runS (As := [.long p2.toInt64, .long ((0 : Int32).toInt64), .long ((20 : Int32).toInt64)]) (rest := [.int 1]) ⟨hx, hb, hml, hown, hts⟩ (c_X11_isIn l dC dI e0 p2 0 20 H.size) (cwS 3 hts (goodIn_sub (fun _ h9 => List.mem_cons_of_mem _ (List.mem_append_right _ (h9))) (by decide +kernel)) rfl rfl rfl (by decide +kernel) ⟨(Nat.le_of_ble_eq_true rfl), (Nat.le_of_ble_eq_true rfl)⟩) ⟨fz_blind, fz_pre hPc hKc hDc hAm hS hFc⟩ rfl rfl hl.1 rfl (lv_room (Nat.le_of_ble_eq_true rfl)) dX11_isJoint_52 ⟨(Nat.le_of_ble_eq_true rfl), (Nat.le_of_ble_eq_true rfl)⟩) hS (fun q _ h => hFc q h) hFc (fun r u t H1 locs ht hvm hw hB hz1 hk1 hS => ?_)
          rcases hw with ⟨rfl, hp_67⟩ | ⟨rfl, hp_68⟩
          · have hP := fz_keep hP hk1
            generalize H1 = H at hP hS ⊢
            have hP : va_P (dC, dI) vwCl [(h0, .inl (cI, 4, .inl (upd (upd (upd (upd (fun _ => 0) (0 : Int32).toNatClampNeg p0) (1 : Int32).toNatClampNeg p1) (2 : Int32).toNatClampNeg p2) (3 : Int32).toNatClampNeg p3)))] H := hP
            refine W.widen (k := 0) (n := 0) (Nat.le_of_ble_eq_true rfl) (Nat.le_of_ble_eq_true rfl) ?_
            refine lv_iand hx hb dX11_isJoint_55 ?_
            refine lv_topi (fun z_9 e_9 => ?_)
            obtain rfl : 1 = z_9 := (e_9.trans (by decide)).symm
            refine lv_istore_n (lv' := [(1, .int 1), (5, .int p2), (4, .int 2), (3, .int 4), (2, .ref h0), (0, .ref h0)]) hx hb dX11_isJoint_56 rfl hl (by decide) rfl (fun ls hl => ?_)
            refine lv_iinc (v := 3) (lv' := [(4, .int 3), (1, .int 1), (5, .int p2), (3, .int 4), (2, .ref h0), (0, .ref h0)]) hx hb dX11_isJoint_57 hl (k := 2) rfl (by decide) (by decide) rfl (fun ls hl => ?_)
            refine lv_goto (tgt := 32) hx hb dX11_isJoint_60 (by decide) ?_
            refine lv_iload hx hb dX11_isJoint_32 (lv_at hl 0 rfl) ?_
            refine lv_iload_n hx hb dX11_isJoint_34 rfl (lv_at hl 3 rfl) ?_
            refine lv_icmp_ge (tgt := 63) hx hb dX11_isJoint_35 (by decide) (fun c_9 => absurd c_9 (by decide)) (fun _ => ?_)
            refine lv_aload_n hx hb dX11_isJoint_38 rfl (lv_at hl 4 rfl) ?_
            refine lv_iload hx hb dX11_isJoint_39 (lv_at hl 0 rfl) ?_
            refine va_iald hx hb hK hP 0 0 rfl rfl (fz_il (by decide)) dX11_isJoint_41 ?_
            refine lv_topi (fun z_9 e_9 => ?_)
            obtain rfl : p3 = z_9 := (e_9.trans (by first | rfl | simp [upd])).symm
            refine lv_istore (lv' := [(5, .int p3), (4, .int 3), (1, .int 1), (3, .int 4), (2, .ref h0), (0, .ref h0)]) hx hb dX11_isJoint_42 hl (by decide) rfl (fun ls hl => ?_)
            refine lv_iload_n hx hb dX11_isJoint_44 rfl (lv_at hl 2 rfl) ?_
            refine lv_iload hx hb dX11_isJoint_45 (lv_at hl 0 rfl) ?_
            refine lv_i2l (v := p3.toInt64) hx hb dX11_isJoint_47 rfl ?_
            refine lv_lconst (v := (0 : Int32).toInt64) hx hb dX11_isJoint_48 (by decide) ?_
            refine lv_ldc2 (v := 20) hx hb hown (hts _ (List.mem_cons_of_mem _ (List.mem_append_left _ (List.mem_of_getElem? (i := 0) rfl)))) dX11_isJoint_49 ?_
            refine lv_topl (fun z_9 e_9 => ?_)
            obtain rfl : (20 : Int32).toInt64 = z_9 := (e_9.trans (by decide)).symm
            have hPc := hP.sub (ws' := []) [] rfl
            have hDc := hD.sub (ws' := []) [] (by decide) rfl
            have hKc := hK.sub (tys' := []) [] rfl
            have hFc : ∀ q : Nat, H.size ≤ q → A q := fun q h => hA q (Nat.le_trans hS.1 h)
            refine va_calli (va_runS (As := [.long p3.toInt64, .long ((0 : Int32).toInt64), .long ((20 : Int32).toInt64)]) (rest := [.int 1]) ⟨hx, hb, hml, hown, hts⟩ (c_X11_isIn l dC dI e0 p3 0 20 H.size) (cwS 3 hts (goodIn_sub (fun _ h9 => List.mem_cons_of_mem _ (List.mem_append_right _ (h9))) (by decide +kernel)) rfl rfl rfl (by decide +kernel) ⟨(Nat.le_of_ble_eq_true rfl), (Nat.le_of_ble_eq_true rfl)⟩) ⟨fz_blind, fz_pre hPc hKc hDc hAm hS hFc⟩ rfl rfl hl.1 rfl (lv_room (Nat.le_of_ble_eq_true rfl)) dX11_isJoint_52 ⟨(Nat.le_of_ble_eq_true rfl), (Nat.le_of_ble_eq_true rfl)⟩) hS (fun q _ h => hFc q h) hFc (fun r u t H1 locs ht hvm hw hB hz1 hk1 hS => ?_)
            rcases hw with ⟨rfl, hp_69⟩ | ⟨rfl, hp_70⟩
            · have hP := fz_keep hP hk1
              generalize H1 = H at hP hS ⊢
              have hP : va_P (dC, dI) vwCl [(h0, .inl (cI, 4, .inl (upd (upd (upd (upd (fun _ => 0) (0 : Int32).toNatClampNeg p0) (1 : Int32).toNatClampNeg p1) (2 : Int32).toNatClampNeg p2) (3 : Int32).toNatClampNeg p3)))] H := hP
              refine W.widen (k := 0) (n := 0) (Nat.le_of_ble_eq_true rfl) (Nat.le_of_ble_eq_true rfl) ?_
              refine lv_iand hx hb dX11_isJoint_55 ?_
              refine lv_topi (fun z_9 e_9 => ?_)
              obtain rfl : 1 = z_9 := (e_9.trans (by decide)).symm
              refine lv_istore_n (lv' := [(1, .int 1), (5, .int p3), (4, .int 3), (3, .int 4), (2, .ref h0), (0, .ref h0)]) hx hb dX11_isJoint_56 rfl hl (by decide) rfl (fun ls hl => ?_)
              refine lv_iinc (v := 4) (lv' := [(4, .int 4), (1, .int 1), (5, .int p3), (3, .int 4), (2, .ref h0), (0, .ref h0)]) hx hb dX11_isJoint_57 hl (k := 2) rfl (by decide) (by decide) rfl (fun ls hl => ?_)
              refine lv_goto (tgt := 32) hx hb dX11_isJoint_60 (by decide) ?_
              refine lv_iload hx hb dX11_isJoint_32 (lv_at hl 0 rfl) ?_
              refine lv_iload_n hx hb dX11_isJoint_34 rfl (lv_at hl 3 rfl) ?_
              refine lv_icmp_ge (tgt := 63) hx hb dX11_isJoint_35 (by decide) (fun _ => ?_) (fun c_9 => absurd (by decide) c_9)
              refine lv_iload_n hx hb dX11_isJoint_63 rfl (lv_at hl 1 rfl) ?_
              refine W.widen (k := 0) (n := 0) (Nat.le_of_ble_eq_true rfl) (Nat.le_of_ble_eq_true rfl) ?_
              exact W.zret (v := 1) hx hb hr rfl (fun t ht hW => ⟨⟨1, (), rfl, Or.inl (⟨rfl, (q_c_X11_isJoint_32 c_1 c_32 hp_63 hp_65 hp_67 hp_69)⟩), trivial⟩, hS.F ht⟩) hS.2.2 dX11_isJoint_64
            · have hP := fz_keep hP hk1
              generalize H1 = H at hP hS ⊢
              have hP : va_P (dC, dI) vwCl [(h0, .inl (cI, 4, .inl (upd (upd (upd (upd (fun _ => 0) (0 : Int32).toNatClampNeg p0) (1 : Int32).toNatClampNeg p1) (2 : Int32).toNatClampNeg p2) (3 : Int32).toNatClampNeg p3)))] H := hP
              refine W.widen (k := 0) (n := 0) (Nat.le_of_ble_eq_true rfl) (Nat.le_of_ble_eq_true rfl) ?_
              refine lv_iand hx hb dX11_isJoint_55 ?_
              refine lv_topi (fun z_9 e_9 => ?_)
              obtain rfl : 0 = z_9 := (e_9.trans (by decide)).symm
              refine lv_istore_n (lv' := [(1, .int 0), (5, .int p3), (4, .int 3), (3, .int 4), (2, .ref h0), (0, .ref h0)]) hx hb dX11_isJoint_56 rfl hl (by decide) rfl (fun ls hl => ?_)
              refine lv_iinc (v := 4) (lv' := [(4, .int 4), (1, .int 0), (5, .int p3), (3, .int 4), (2, .ref h0), (0, .ref h0)]) hx hb dX11_isJoint_57 hl (k := 2) rfl (by decide) (by decide) rfl (fun ls hl => ?_)
              refine lv_goto (tgt := 32) hx hb dX11_isJoint_60 (by decide) ?_
              refine lv_iload hx hb dX11_isJoint_32 (lv_at hl 0 rfl) ?_
              refine lv_iload_n hx hb dX11_isJoint_34 rfl (lv_at hl 3 rfl) ?_
              refine lv_icmp_ge (tgt := 63) hx hb dX11_isJoint_35 (by decide) (fun _ => ?_) (fun c_9 => absurd (by decide) c_9)
              refine lv_iload_n hx hb dX11_isJoint_63 rfl (lv_at hl 1 rfl) ?_
              refine W.widen (k := 0) (n := 0) (Nat.le_of_ble_eq_true rfl) (Nat.le_of_ble_eq_true rfl) ?_
              exact W.zret (v := 0) hx hb hr rfl (fun t ht hW => ⟨⟨0, (), rfl, Or.inr (⟨rfl, (q_c_X11_isJoint_33 c_1 c_32 hp_63 hp_65 hp_67 hp_70)⟩), trivial⟩, hS.F ht⟩) hS.2.2 dX11_isJoint_64
          · have hP := fz_keep hP hk1
            generalize H1 = H at hP hS ⊢
            have hP : va_P (dC, dI) vwCl [(h0, .inl (cI, 4, .inl (upd (upd (upd (upd (fun _ => 0) (0 : Int32).toNatClampNeg p0) (1 : Int32).toNatClampNeg p1) (2 : Int32).toNatClampNeg p2) (3 : Int32).toNatClampNeg p3)))] H := hP
            refine W.widen (k := 0) (n := 0) (Nat.le_of_ble_eq_true rfl) (Nat.le_of_ble_eq_true rfl) ?_
            refine lv_iand hx hb dX11_isJoint_55 ?_
            refine lv_topi (fun z_9 e_9 => ?_)
            obtain rfl : 0 = z_9 := (e_9.trans (by decide)).symm
            refine lv_istore_n (lv' := [(1, .int 0), (5, .int p2), (4, .int 2), (3, .int 4), (2, .ref h0), (0, .ref h0)]) hx hb dX11_isJoint_56 rfl hl (by decide) rfl (fun ls hl => ?_)
            refine lv_iinc (v := 3) (lv' := [(4, .int 3), (1, .int 0), (5, .int p2), (3, .int 4), (2, .ref h0), (0, .ref h0)]) hx hb dX11_isJoint_57 hl (k := 2) rfl (by decide) (by decide) rfl (fun ls hl => ?_)
            refine lv_goto (tgt := 32) hx hb dX11_isJoint_60 (by decide) ?_
            refine lv_iload hx hb dX11_isJoint_32 (lv_at hl 0 rfl) ?_
            refine lv_iload_n hx hb dX11_isJoint_34 rfl (lv_at hl 3 rfl) ?_
            refine lv_icmp_ge (tgt := 63) hx hb dX11_isJoint_35 (by decide) (fun c_9 => absurd c_9 (by decide)) (fun _ => ?_)
            refine lv_aload_n hx hb dX11_isJoint_38 rfl (lv_at hl 4 rfl) ?_
            refine lv_iload hx hb dX11_isJoint_39 (lv_at hl 0 rfl) ?_
            refine va_iald hx hb hK hP 0 0 rfl rfl (fz_il (by decide)) dX11_isJoint_41 ?_
            refine lv_topi (fun z_9 e_9 => ?_)
            obtain rfl : p3 = z_9 := (e_9.trans (by first | rfl | simp [upd])).symm
            refine lv_istore (lv' := [(5, .int p3), (4, .int 3), (1, .int 0), (3, .int 4), (2, .ref h0), (0, .ref h0)]) hx hb dX11_isJoint_42 hl (by decide) rfl (fun ls hl => ?_)
            refine lv_iload_n hx hb dX11_isJoint_44 rfl (lv_at hl 2 rfl) ?_
            refine lv_iload hx hb dX11_isJoint_45 (lv_at hl 0 rfl) ?_
            refine lv_i2l (v := p3.toInt64) hx hb dX11_isJoint_47 rfl ?_
            refine lv_lconst (v := (0 : Int32).toInt64) hx hb dX11_isJoint_48 (by decide) ?_
            refine lv_ldc2 (v := 20) hx hb hown (hts _ (List.mem_cons_of_mem _ (List.mem_append_left _ (List.mem_of_getElem? (i := 0) rfl)))) dX11_isJoint_49 ?_
            refine lv_topl (fun z_9 e_9 => ?_)
            obtain rfl : (20 : Int32).toInt64 = z_9 := (e_9.trans (by decide)).symm
            have hPc := hP.sub (ws' := []) [] rfl
            have hDc := hD.sub (ws' := []) [] (by decide) rfl
            have hKc := hK.sub (tys' := []) [] rfl
            have hFc : ∀ q : Nat, H.size ≤ q → A q := fun q h => hA q (Nat.le_trans hS.1 h)
            refine va_calli (va_runS (As := [.long p3.toInt64, .long ((0 : Int32).toInt64), .long ((20 : Int32).toInt64)]) (rest := [.int 0]) ⟨hx, hb, hml, hown, hts⟩ (c_X11_isIn l dC dI e0 p3 0 20 H.size) (cwS 3 hts (goodIn_sub (fun _ h9 => List.mem_cons_of_mem _ (List.mem_append_right _ (h9))) (by decide +kernel)) rfl rfl rfl (by decide +kernel) ⟨(Nat.le_of_ble_eq_true rfl), (Nat.le_of_ble_eq_true rfl)⟩) ⟨fz_blind, fz_pre hPc hKc hDc hAm hS hFc⟩ rfl rfl hl.1 rfl (lv_room (Nat.le_of_ble_eq_true rfl)) dX11_isJoint_52 ⟨(Nat.le_of_ble_eq_true rfl), (Nat.le_of_ble_eq_true rfl)⟩) hS (fun q _ h => hFc q h) hFc (fun r u t H1 locs ht hvm hw hB hz1 hk1 hS => ?_)
            rcases hw with ⟨rfl, hp_71⟩ | ⟨rfl, hp_72⟩
            · have hP := fz_keep hP hk1
              generalize H1 = H at hP hS ⊢
              have hP : va_P (dC, dI) vwCl [(h0, .inl (cI, 4, .inl (upd (upd (upd (upd (fun _ => 0) (0 : Int32).toNatClampNeg p0) (1 : Int32).toNatClampNeg p1) (2 : Int32).toNatClampNeg p2) (3 : Int32).toNatClampNeg p3)))] H := hP
              refine W.widen (k := 0) (n := 0) (Nat.le_of_ble_eq_true rfl) (Nat.le_of_ble_eq_true rfl) ?_
              refine lv_iand hx hb dX11_isJoint_55 ?_
              refine lv_topi (fun z_9 e_9 => ?_)
              obtain rfl : 0 = z_9 := (e_9.trans (by decide)).symm
              refine lv_istore_n (lv' := [(1, .int 0), (5, .int p3), (4, .int 3), (3, .int 4), (2, .ref h0), (0, .ref h0)]) hx hb dX11_isJoint_56 rfl hl (by decide) rfl (fun ls hl => ?_)
              refine lv_iinc (v := 4) (lv' := [(4, .int 4), (1, .int 0), (5, .int p3), (3, .int 4), (2, .ref h0), (0, .ref h0)]) hx hb dX11_isJoint_57 hl (k := 2) rfl (by decide) (by decide) rfl (fun ls hl => ?_)
              refine lv_goto (tgt := 32) hx hb dX11_isJoint_60 (by decide) ?_
              refine lv_iload hx hb dX11_isJoint_32 (lv_at hl 0 rfl) ?_
              refine lv_iload_n hx hb dX11_isJoint_34 rfl (lv_at hl 3 rfl) ?_
              refine lv_icmp_ge (tgt := 63) hx hb dX11_isJoint_35 (by decide) (fun _ => ?_) (fun c_9 => absurd (by decide) c_9)
              refine lv_iload_n hx hb dX11_isJoint_63 rfl (lv_at hl 1 rfl) ?_
              refine W.widen (k := 0) (n := 0) (Nat.le_of_ble_eq_true rfl) (Nat.le_of_ble_eq_true rfl) ?_
              exact W.zret (v := 0) hx hb hr rfl (fun t ht hW => ⟨⟨0, (), rfl, Or.inr (⟨rfl, (q_c_X11_isJoint_34 c_1 c_32 hp_63 hp_65 hp_68 hp_71)⟩), trivial⟩, hS.F ht⟩) hS.2.2 dX11_isJoint_64
            · have hP := fz_keep hP hk1
              generalize H1 = H at hP hS ⊢
              have hP : va_P (dC, dI) vwCl [(h0, .inl (cI, 4, .inl (upd (upd (upd (upd (fun _ => 0) (0 : Int32).toNatClampNeg p0) (1 : Int32).toNatClampNeg p1) (2 : Int32).toNatClampNeg p2) (3 : Int32).toNatClampNeg p3)))] H := hP
              refine W.widen (k := 0) (n := 0) (Nat.le_of_ble_eq_true rfl) (Nat.le_of_ble_eq_true rfl) ?_
              refine lv_iand hx hb dX11_isJoint_55 ?_
              refine lv_topi (fun z_9 e_9 => ?_)
              obtain rfl : 0 = z_9 := (e_9.trans (by decide)).symm
              refine lv_istore_n (lv' := [(1, .int 0), (5, .int p3), (4, .int 3), (3, .int 4), (2, .ref h0), (0, .ref h0)]) hx hb dX11_isJoint_56 rfl hl (by decide) rfl (fun ls hl => ?_)
              refine lv_iinc (v := 4) (lv' := [(4, .int 4), (1, .int 0), (5, .int p3), (3, .int 4), (2, .ref h0), (0, .ref h0)]) hx hb dX11_isJoint_57 hl (k := 2) rfl (by decide) (by decide) rfl (fun ls hl => ?_)
              refine lv_goto (tgt := 32) hx hb dX11_isJoint_60 (by decide) ?_
              refine lv_iload hx hb dX11_isJoint_32 (lv_at hl 0 rfl) ?_
              refine lv_iload_n hx hb dX11_isJoint_34 rfl (lv_at hl 3 rfl) ?_
              refine lv_icmp_ge (tgt := 63) hx hb dX11_isJoint_35 (by decide) (fun _ => ?_) (fun c_9 => absurd (by decide) c_9)
              refine lv_iload_n hx hb dX11_isJoint_63 rfl (lv_at hl 1 rfl) ?_
              refine W.widen (k := 0) (n := 0) (Nat.le_of_ble_eq_true rfl) (Nat.le_of_ble_eq_true rfl) ?_
              exact W.zret (v := 0) hx hb hr rfl (fun t ht hW => ⟨⟨0, (), rfl, Or.inr (⟨rfl, (q_c_X11_isJoint_35 c_1 c_32 hp_63 hp_65 hp_68 hp_72)⟩), trivial⟩, hS.F ht⟩) hS.2.2 dX11_isJoint_64
        · have hP := fz_keep hP hk1
          generalize H1 = H at hP hS ⊢
          have hP : va_P (dC, dI) vwCl [(h0, .inl (cI, 4, .inl (upd (upd (upd (upd (fun _ => 0) (0 : Int32).toNatClampNeg p0) (1 : Int32).toNatClampNeg p1) (2 : Int32).toNatClampNeg p2) (3 : Int32).toNatClampNeg p3)))] H := hP
          refine W.widen (k := 0) (n := 0) (Nat.le_of_ble_eq_true rfl) (Nat.le_of_ble_eq_true rfl) ?_
          refine lv_iand hx hb dX11_isJoint_55 ?_
          refine lv_topi (fun z_9 e_9 => ?_)
          obtain rfl : 0 = z_9 := (e_9.trans (by decide)).symm
          refine lv_istore_n (lv' := [(1, .int 0), (5, .int p1), (4, .int 1), (3, .int 4), (2, .ref h0), (0, .ref h0)]) hx hb dX11_isJoint_56 rfl hl (by decide) rfl (fun ls hl => ?_)
          refine lv_iinc (v := 2) (lv' := [(4, .int 2), (1, .int 0), (5, .int p1), (3, .int 4), (2, .ref h0), (0, .ref h0)]) hx hb dX11_isJoint_57 hl (k := 2) rfl (by decide) (by decide) rfl (fun ls hl => ?_)
          refine lv_goto (tgt := 32) hx hb dX11_isJoint_60 (by decide) ?_
          refine lv_iload hx hb dX11_isJoint_32 (lv_at hl 0 rfl) ?_
          refine lv_iload_n hx hb dX11_isJoint_34 rfl (lv_at hl 3 rfl) ?_
          refine lv_icmp_ge (tgt := 63) hx hb dX11_isJoint_35 (by decide) (fun c_9 => absurd c_9 (by decide)) (fun _ => ?_)
          refine lv_aload_n hx hb dX11_isJoint_38 rfl (lv_at hl 4 rfl) ?_
          refine lv_iload hx hb dX11_isJoint_39 (lv_at hl 0 rfl) ?_
          refine va_iald hx hb hK hP 0 0 rfl rfl (fz_il (by decide)) dX11_isJoint_41 ?_
          refine lv_topi (fun z_9 e_9 => ?_)
          obtain rfl : p2 = z_9 := (e_9.trans (by first | rfl | simp [upd])).symm
          refine lv_istore (lv' := [(5, .int p2), (4, .int 2), (1, .int 0), (3, .int 4), (2, .ref h0), (0, .ref h0)]) hx hb dX11_isJoint_42 hl (by decide) rfl (fun ls hl => ?_)
          refine lv_iload_n hx hb dX11_isJoint_44 rfl (lv_at hl 2 rfl) ?_
          refine lv_iload hx hb dX11_isJoint_45 (lv_at hl 0 rfl) ?_
          refine lv_i2l (v := p2.toInt64) hx hb dX11_isJoint_47 rfl ?_
          refine lv_lconst (v := (0 : Int32).toInt64) hx hb dX11_isJoint_48 (by decide) ?_
          refine lv_ldc2 (v := 20) hx hb hown (hts _ (List.mem_cons_of_mem _ (List.mem_append_left _ (List.mem_of_getElem? (i := 0) rfl)))) dX11_isJoint_49 ?_
          refine lv_topl (fun z_9 e_9 => ?_)
          obtain rfl : (20 : Int32).toInt64 = z_9 := (e_9.trans (by decide)).symm
          have hPc := hP.sub (ws' := []) [] rfl
          have hDc := hD.sub (ws' := []) [] (by decide) rfl
          have hKc := hK.sub (tys' := []) [] rfl
          have hFc : ∀ q : Nat, H.size ≤ q → A q := fun q h => hA q (Nat.le_trans hS.1 h)
          refine va_calli (va_runS (As := [.long p2.toInt64, .long ((0 : Int32).toInt64), .long ((20 : Int32).toInt64)]) (rest := [.int 0]) ⟨hx, hb, hml, hown, hts⟩ (c_X11_isIn l dC dI e0 p2 0 20 H.size) (cwS 3 hts (goodIn_sub (fun _ h9 => List.mem_cons_of_mem _ (List.mem_append_right _ (h9))) (by decide +kernel)) rfl rfl rfl (by decide +kernel) ⟨(Nat.le_of_ble_eq_true rfl), (Nat.le_of_ble_eq_true rfl)⟩) ⟨fz_blind, fz_pre hPc hKc hDc hAm hS hFc⟩ rfl rfl hl.1 rfl (lv_room (Nat.le_of_ble_eq_true rfl)) dX11_isJoint_52 ⟨(Nat.le_of_ble_eq_true rfl), (Nat.le_of_ble_eq_true rfl)⟩) hS (fun q _ h => hFc q h) hFc (fun r u t H1 locs ht hvm hw hB hz1 hk1 hS => ?_)
          rcases hw with ⟨rfl, hp_73⟩ | ⟨rfl, hp_74⟩
          · have hP := fz_keep hP hk1
            generalize H1 = H at hP hS ⊢
            have hP : va_P (dC, dI) vwCl [(h0, .inl (cI, 4, .inl (upd (upd (upd (upd (fun _ => 0) (0 : Int32).toNatClampNeg p0) (1 : Int32).toNatClampNeg p1) (2 : Int32).toNatClampNeg p2) (3 : Int32).toNatClampNeg p3)))] H := hP
            refine W.widen (k := 0) (n := 0) (Nat.le_of_ble_eq_true rfl) (Nat.le_of_ble_eq_true rfl) ?_
            refine lv_iand hx hb dX11_isJoint_55 ?_
            refine lv_topi (fun z_9 e_9 => ?_)
            obtain rfl : 0 = z_9 := (e_9.trans (by decide)).symm
            refine lv_istore_n (lv' := [(1, .int 0), (5, .int p2), (4, .int 2), (3, .int 4), (2, .ref h0), (0, .ref h0)]) hx hb dX11_isJoint_56 rfl hl (by decide) rfl (fun ls hl => ?_)
            refine lv_iinc (v := 3) (lv' := [(4, .int 3), (1, .int 0), (5, .int p2), (3, .int 4), (2, .ref h0), (0, .ref h0)]) hx hb dX11_isJoint_57 hl (k := 2) rfl (by decide) (by decide) rfl (fun ls hl => ?_)
            refine lv_goto (tgt := 32) hx hb dX11_isJoint_60 (by decide) ?_
            refine lv_iload hx hb dX11_isJoint_32 (lv_at hl 0 rfl) ?_
            refine lv_iload_n hx hb dX11_isJoint_34 rfl (lv_at hl 3 rfl) ?_
            refine lv_icmp_ge (tgt := 63) hx hb dX11_isJoint_35 (by decide) (fun c_9 => absurd c_9 (by decide)) (fun _ => ?_)
            refine lv_aload_n hx hb dX11_isJoint_38 rfl (lv_at hl 4 rfl) ?_
            refine lv_iload hx hb dX11_isJoint_39 (lv_at hl 0 rfl) ?_
            refine va_iald hx hb hK hP 0 0 rfl rfl (fz_il (by decide)) dX11_isJoint_41 ?_
            refine lv_topi (fun z_9 e_9 => ?_)
            obtain rfl : p3 = z_9 := (e_9.trans (by first | rfl | simp [upd])).symm
            refine lv_istore (lv' := [(5, .int p3), (4, .int 3), (1, .int 0), (3, .int 4), (2, .ref h0), (0, .ref h0)]) hx hb dX11_isJoint_42 hl (by decide) rfl (fun ls hl => ?_)
            refine lv_iload_n hx hb dX11_isJoint_44 rfl (lv_at hl 2 rfl) ?_
            refine lv_iload hx hb dX11_isJoint_45 (lv_at hl 0 rfl) ?_
            refine lv_i2l (v := p3.toInt64) hx hb dX11_isJoint_47 rfl ?_
            refine lv_lconst (v := (0 : Int32).toInt64) hx hb dX11_isJoint_48 (by decide) ?_
            refine lv_ldc2 (v := 20) hx hb hown (hts _ (List.mem_cons_of_mem _ (List.mem_append_left _ (List.mem_of_getElem? (i := 0) rfl)))) dX11_isJoint_49 ?_
            refine lv_topl (fun z_9 e_9 => ?_)
            obtain rfl : (20 : Int32).toInt64 = z_9 := (e_9.trans (by decide)).symm
            have hPc := hP.sub (ws' := []) [] rfl
            have hDc := hD.sub (ws' := []) [] (by decide) rfl
            have hKc := hK.sub (tys' := []) [] rfl
            have hFc : ∀ q : Nat, H.size ≤ q → A q := fun q h => hA q (Nat.le_trans hS.1 h)
            refine va_calli (va_runS (As := [.long p3.toInt64, .long ((0 : Int32).toInt64), .long ((20 : Int32).toInt64)]) (rest := [.int 0]) ⟨hx, hb, hml, hown, hts⟩ (c_X11_isIn l dC dI e0 p3 0 20 H.size) (cwS 3 hts (goodIn_sub (fun _ h9 => List.mem_cons_of_mem _ (List.mem_append_right _ (h9))) (by decide +kernel)) rfl rfl rfl (by decide +kernel) ⟨(Nat.le_of_ble_eq_true rfl), (Nat.le_of_ble_eq_true rfl)⟩) ⟨fz_blind, fz_pre hPc hKc hDc hAm hS hFc⟩ rfl rfl hl.1 rfl (lv_room (Nat.le_of_ble_eq_true rfl)) dX11_isJoint_52 ⟨(Nat.le_of_ble_eq_true rfl), (Nat.le_of_ble_eq_true rfl)⟩) hS (fun q _ h => hFc q h) hFc (fun r u t H1 locs ht hvm hw hB hz1 hk1 hS => ?_)
            rcases hw with ⟨rfl, hp_75⟩ | ⟨rfl, hp_76⟩
            · have hP := fz_keep hP hk1
              generalize H1 = H at hP hS ⊢
              have hP : va_P (dC, dI) vwCl [(h0, .inl (cI, 4, .inl (upd (upd (upd (upd (fun _ => 0) (0 : Int32).toNatClampNeg p0) (1 : Int32).toNatClampNeg p1) (2 : Int32).toNatClampNeg p2) (3 : Int32).toNatClampNeg p3)))] H := hP
              refine W.widen (k := 0) (n := 0) (Nat.le_of_ble_eq_true rfl) (Nat.le_of_ble_eq_true rfl) ?_
              refine lv_iand hx hb dX11_isJoint_55 ?_
              refine lv_topi (fun z_9 e_9 => ?_)
              obtain rfl : 0 = z_9 := (e_9.trans (by decide)).symm
              refine lv_istore_n (lv' := [(1, .int 0), (5, .int p3), (4, .int 3), (3, .int 4), (2, .ref h0), (0, .ref h0)]) hx hb dX11_isJoint_56 rfl hl (by decide) rfl (fun ls hl => ?_)
              refine lv_iinc (v := 4) (lv' := [(4, .int 4), (1, .int 0), (5, .int p3), (3, .int 4), (2, .ref h0), (0, .ref h0)]) hx hb dX11_isJoint_57 hl (k := 2) rfl (by decide) (by decide) rfl (fun ls hl => ?_)
              refine lv_goto (tgt := 32) hx hb dX11_isJoint_60 (by decide) ?_
              refine lv_iload hx hb dX11_isJoint_32 (lv_at hl 0 rfl) ?_
              refine lv_iload_n hx hb dX11_isJoint_34 rfl (lv_at hl 3 rfl) ?_
              refine lv_icmp_ge (tgt := 63) hx hb dX11_isJoint_35 (by decide) (fun _ => ?_) (fun c_9 => absurd (by decide) c_9)
              refine lv_iload_n hx hb dX11_isJoint_63 rfl (lv_at hl 1 rfl) ?_
              refine W.widen (k := 0) (n := 0) (Nat.le_of_ble_eq_true rfl) (Nat.le_of_ble_eq_true rfl) ?_
              exact W.zret (v := 0) hx hb hr rfl (fun t ht hW => ⟨⟨0, (), rfl, Or.inr (⟨rfl, (q_c_X11_isJoint_36 c_1 c_32 hp_63 hp_66 hp_73 hp_75)⟩), trivial⟩, hS.F ht⟩) hS.2.2 dX11_isJoint_64
            · have hP := fz_keep hP hk1
              generalize H1 = H at hP hS ⊢
              have hP : va_P (dC, dI) vwCl [(h0, .inl (cI, 4, .inl (upd (upd (upd (upd (fun _ => 0) (0 : Int32).toNatClampNeg p0) (1 : Int32).toNatClampNeg p1) (2 : Int32).toNatClampNeg p2) (3 : Int32).toNatClampNeg p3)))] H := hP
              refine W.widen (k := 0) (n := 0) (Nat.le_of_ble_eq_true rfl) (Nat.le_of_ble_eq_true rfl) ?_
              refine lv_iand hx hb dX11_isJoint_55 ?_
              refine lv_topi (fun z_9 e_9 => ?_)
              obtain rfl : 0 = z_9 := (e_9.trans (by decide)).symm
              refine lv_istore_n (lv' := [(1, .int 0), (5, .int p3), (4, .int 3), (3, .int 4), (2, .ref h0), (0, .ref h0)]) hx hb dX11_isJoint_56 rfl hl (by decide) rfl (fun ls hl => ?_)
              refine lv_iinc (v := 4) (lv' := [(4, .int 4), (1, .int 0), (5, .int p3), (3, .int 4), (2, .ref h0), (0, .ref h0)]) hx hb dX11_isJoint_57 hl (k := 2) rfl (by decide) (by decide) rfl (fun ls hl => ?_)
              refine lv_goto (tgt := 32) hx hb dX11_isJoint_60 (by decide) ?_
              refine lv_iload hx hb dX11_isJoint_32 (lv_at hl 0 rfl) ?_
              refine lv_iload_n hx hb dX11_isJoint_34 rfl (lv_at hl 3 rfl) ?_
              refine lv_icmp_ge (tgt := 63) hx hb dX11_isJoint_35 (by decide) (fun _ => ?_) (fun c_9 => absurd (by decide) c_9)
              refine lv_iload_n hx hb dX11_isJoint_63 rfl (lv_at hl 1 rfl) ?_
              refine W.widen (k := 0) (n := 0) (Nat.le_of_ble_eq_true rfl) (Nat.le_of_ble_eq_true rfl) ?_
              exact W.zret (v := 0) hx hb hr rfl (fun t ht hW => ⟨⟨0, (), rfl, Or.inr (⟨rfl, (q_c_X11_isJoint_37 c_1 c_32 hp_63 hp_66 hp_73 hp_76)⟩), trivial⟩, hS.F ht⟩) hS.2.2 dX11_isJoint_64
          · have hP := fz_keep hP hk1
            generalize H1 = H at hP hS ⊢
            have hP : va_P (dC, dI) vwCl [(h0, .inl (cI, 4, .inl (upd (upd (upd (upd (fun _ => 0) (0 : Int32).toNatClampNeg p0) (1 : Int32).toNatClampNeg p1) (2 : Int32).toNatClampNeg p2) (3 : Int32).toNatClampNeg p3)))] H := hP
            refine W.widen (k := 0) (n := 0) (Nat.le_of_ble_eq_true rfl) (Nat.le_of_ble_eq_true rfl) ?_
            refine lv_iand hx hb dX11_isJoint_55 ?_
            refine lv_topi (fun z_9 e_9 => ?_)
            obtain rfl : 0 = z_9 := (e_9.trans (by decide)).symm
            refine lv_istore_n (lv' := [(1, .int 0), (5, .int p2), (4, .int 2), (3, .int 4), (2, .ref h0), (0, .ref h0)]) hx hb dX11_isJoint_56 rfl hl (by decide) rfl (fun ls hl => ?_)
            refine lv_iinc (v := 3) (lv' := [(4, .int 3), (1, .int 0), (5, .int p2), (3, .int 4), (2, .ref h0), (0, .ref h0)]) hx hb dX11_isJoint_57 hl (k := 2) rfl (by decide) (by decide) rfl (fun ls hl => ?_)
            refine lv_goto (tgt := 32) hx hb dX11_isJoint_60 (by decide) ?_
            refine lv_iload hx hb dX11_isJoint_32 (lv_at hl 0 rfl) ?_
            refine lv_iload_n hx hb dX11_isJoint_34 rfl (lv_at hl 3 rfl) ?_
            refine lv_icmp_ge (tgt := 63) hx hb dX11_isJoint_35 (by decide) (fun c_9 => absurd c_9 (by decide)) (fun _ => ?_)
            refine lv_aload_n hx hb dX11_isJoint_38 rfl (lv_at hl 4 rfl) ?_
            refine lv_iload hx hb dX11_isJoint_39 (lv_at hl 0 rfl) ?_
            refine va_iald hx hb hK hP 0 0 rfl rfl (fz_il (by decide)) dX11_isJoint_41 ?_
            refine lv_topi (fun z_9 e_9 => ?_)
            obtain rfl : p3 = z_9 := (e_9.trans (by first | rfl | simp [upd])).symm
            refine lv_istore (lv' := [(5, .int p3), (4, .int 3), (1, .int 0), (3, .int 4), (2, .ref h0), (0, .ref h0)]) hx hb dX11_isJoint_42 hl (by decide) rfl (fun ls hl => ?_)
            refine lv_iload_n hx hb dX11_isJoint_44 rfl (lv_at hl 2 rfl) ?_
            refine lv_iload hx hb dX11_isJoint_45 (lv_at hl 0 rfl) ?_
            refine lv_i2l (v := p3.toInt64) hx hb dX11_isJoint_47 rfl ?_
            refine lv_lconst (v := (0 : Int32).toInt64) hx hb dX11_isJoint_48 (by decide) ?_
            refine lv_ldc2 (v := 20) hx hb hown (hts _ (List.mem_cons_of_mem _ (List.mem_append_left _ (List.mem_of_getElem? (i := 0) rfl)))) dX11_isJoint_49 ?_
            refine lv_topl (fun z_9 e_9 => ?_)
            obtain rfl : (20 : Int32).toInt64 = z_9 := (e_9.trans (by decide)).symm
            have hPc := hP.sub (ws' := []) [] rfl
            have hDc := hD.sub (ws' := []) [] (by decide) rfl
            have hKc := hK.sub (tys' := []) [] rfl
            have hFc : ∀ q : Nat, H.size ≤ q → A q := fun q h => hA q (Nat.le_trans hS.1 h)
            refine va_calli (va_runS (As := [.long p3.toInt64, .long ((0 : Int32).toInt64), .long ((20 : Int32).toInt64)]) (rest := [.int 0]) ⟨hx, hb, hml, hown, hts⟩ (c_X11_isIn l dC dI e0 p3 0 20 H.size) (cwS 3 hts (goodIn_sub (fun _ h9 => List.mem_cons_of_mem _ (List.mem_append_right _ (h9))) (by decide +kernel)) rfl rfl rfl (by decide +kernel) ⟨(Nat.le_of_ble_eq_true rfl), (Nat.le_of_ble_eq_true rfl)⟩) ⟨fz_blind, fz_pre hPc hKc hDc hAm hS hFc⟩ rfl rfl hl.1 rfl (lv_room (Nat.le_of_ble_eq_true rfl)) dX11_isJoint_52 ⟨(Nat.le_of_ble_eq_true rfl), (Nat.le_of_ble_eq_true rfl)⟩) hS (fun q _ h => hFc q h) hFc (fun r u t H1 locs ht hvm hw hB hz1 hk1 hS => ?_)
            rcases hw with ⟨rfl, hp_77⟩ | ⟨rfl, hp_78⟩
            · have hP := fz_keep hP hk1
              generalize H1 = H at hP hS ⊢
              have hP : va_P (dC, dI) vwCl [(h0, .inl (cI, 4, .inl (upd (upd (upd (upd (fun _ => 0) (0 : Int32).toNatClampNeg p0) (1 : Int32).toNatClampNeg p1) (2 : Int32).toNatClampNeg p2) (3 : Int32).toNatClampNeg p3)))] H := hP
              refine W.widen (k := 0) (n := 0) (Nat.le_of_ble_eq_true rfl) (Nat.le_of_ble_eq_true rfl) ?_
              refine lv_iand hx hb dX11_isJoint_55 ?_
              refine lv_topi (fun z_9 e_9 => ?_)
              obtain rfl : 0 = z_9 := (e_9.trans (by decide)).symm
              refine lv_istore_n (lv' := [(1, .int 0), (5, .int p3), (4, .int 3), (3, .int 4), (2, .ref h0), (0, .ref h0)]) hx hb dX11_isJoint_56 rfl hl (by decide) rfl (fun ls hl => ?_)
              refine lv_iinc (v := 4) (lv' := [(4, .int 4), (1, .int 0), (5, .int p3), (3, .int 4), (2, .ref h0), (0, .ref h0)]) hx hb dX11_isJoint_57 hl (k := 2) rfl (by decide) (by decide) rfl (fun ls hl => ?_)
              refine lv_goto (tgt := 32) hx hb dX11_isJoint_60 (by decide) ?_
              refine lv_iload hx hb dX11_isJoint_32 (lv_at hl 0 rfl) ?_
              refine lv_iload_n hx hb dX11_isJoint_34 rfl (lv_at hl 3 rfl) ?_
              refine lv_icmp_ge (tgt := 63) hx hb dX11_isJoint_35 (by decide) (fun _ => ?_) (fun c_9 => absurd (by decide) c_9)
              refine lv_iload_n hx hb dX11_isJoint_63 rfl (lv_at hl 1 rfl) ?_
              refine W.widen (k := 0) (n := 0) (Nat.le_of_ble_eq_true rfl) (Nat.le_of_ble_eq_true rfl) ?_
              exact W.zret (v := 0) hx hb hr rfl (fun t ht hW => ⟨⟨0, (), rfl, Or.inr (⟨rfl, (q_c_X11_isJoint_38 c_1 c_32 hp_63 hp_66 hp_74 hp_77)⟩), trivial⟩, hS.F ht⟩) hS.2.2 dX11_isJoint_64
            · have hP := fz_keep hP hk1
              generalize H1 = H at hP hS ⊢
              have hP : va_P (dC, dI) vwCl [(h0, .inl (cI, 4, .inl (upd (upd (upd (upd (fun _ => 0) (0 : Int32).toNatClampNeg p0) (1 : Int32).toNatClampNeg p1) (2 : Int32).toNatClampNeg p2) (3 : Int32).toNatClampNeg p3)))] H := hP
              refine W.widen (k := 0) (n := 0) (Nat.le_of_ble_eq_true rfl) (Nat.le_of_ble_eq_true rfl) ?_
              refine lv_iand hx hb dX11_isJoint_55 ?_
              refine lv_topi (fun z_9 e_9 => ?_)
              obtain rfl : 0 = z_9 := (e_9.trans (by decide)).symm
              refine lv_istore_n (lv' := [(1, .int 0), (5, .int p3), (4, .int 3), (3, .int 4), (2, .ref h0), (0, .ref h0)]) hx hb dX11_isJoint_56 rfl hl (by decide) rfl (fun ls hl => ?_)
              refine lv_iinc (v := 4) (lv' := [(4, .int 4), (1, .int 0), (5, .int p3), (3, .int 4), (2, .ref h0), (0, .ref h0)]) hx hb dX11_isJoint_57 hl (k := 2) rfl (by decide) (by decide) rfl (fun ls hl => ?_)
              refine lv_goto (tgt := 32) hx hb dX11_isJoint_60 (by decide) ?_
              refine lv_iload hx hb dX11_isJoint_32 (lv_at hl 0 rfl) ?_
              refine lv_iload_n hx hb dX11_isJoint_34 rfl (lv_at hl 3 rfl) ?_
              refine lv_icmp_ge (tgt := 63) hx hb dX11_isJoint_35 (by decide) (fun _ => ?_) (fun c_9 => absurd (by decide) c_9)
              refine lv_iload_n hx hb dX11_isJoint_63 rfl (lv_at hl 1 rfl) ?_
              refine W.widen (k := 0) (n := 0) (Nat.le_of_ble_eq_true rfl) (Nat.le_of_ble_eq_true rfl) ?_
              exact W.zret (v := 0) hx hb hr rfl (fun t ht hW => ⟨⟨0, (), rfl, Or.inr (⟨rfl, (q_c_X11_isJoint_39 c_1 c_32 hp_63 hp_66 hp_74 hp_78)⟩), trivial⟩, hS.F ht⟩) hS.2.2 dX11_isJoint_64
      · have hP := fz_keep hP hk1
        generalize H1 = H at hP hS ⊢
        have hP : va_P (dC, dI) vwCl [(h0, .inl (cI, 4, .inl (upd (upd (upd (upd (fun _ => 0) (0 : Int32).toNatClampNeg p0) (1 : Int32).toNatClampNeg p1) (2 : Int32).toNatClampNeg p2) (3 : Int32).toNatClampNeg p3)))] H := hP
        refine W.widen (k := 0) (n := 0) (Nat.le_of_ble_eq_true rfl) (Nat.le_of_ble_eq_true rfl) ?_
        refine lv_iand hx hb dX11_isJoint_55 ?_
        refine lv_topi (fun z_9 e_9 => ?_)
        obtain rfl : 0 = z_9 := (e_9.trans (by decide)).symm
        refine lv_istore_n (lv' := [(1, .int 0), (5, .int p0), (4, .int 0), (3, .int 4), (2, .ref h0), (0, .ref h0)]) hx hb dX11_isJoint_56 rfl hl (by decide) rfl (fun ls hl => ?_)
        refine lv_iinc (v := 1) (lv' := [(4, .int 1), (1, .int 0), (5, .int p0), (3, .int 4), (2, .ref h0), (0, .ref h0)]) hx hb dX11_isJoint_57 hl (k := 2) rfl (by decide) (by decide) rfl (fun ls hl => ?_)
        refine lv_goto (tgt := 32) hx hb dX11_isJoint_60 (by decide) ?_
        refine lv_iload hx hb dX11_isJoint_32 (lv_at hl 0 rfl) ?_
        refine lv_iload_n hx hb dX11_isJoint_34 rfl (lv_at hl 3 rfl) ?_
        refine lv_icmp_ge (tgt := 63) hx hb dX11_isJoint_35 (by decide) (fun c_9 => absurd c_9 (by decide)) (fun _ => ?_)
        refine lv_aload_n hx hb dX11_isJoint_38 rfl (lv_at hl 4 rfl) ?_
        refine lv_iload hx hb dX11_isJoint_39 (lv_at hl 0 rfl) ?_
        refine va_iald hx hb hK hP 0 0 rfl rfl (fz_il (by decide)) dX11_isJoint_41 ?_
        refine lv_topi (fun z_9 e_9 => ?_)
        obtain rfl : p1 = z_9 := (e_9.trans (by first | rfl | simp [upd])).symm
        refine lv_istore (lv' := [(5, .int p1), (4, .int 1), (1, .int 0), (3, .int 4), (2, .ref h0), (0, .ref h0)]) hx hb dX11_isJoint_42 hl (by decide) rfl (fun ls hl => ?_)
        refine lv_iload_n hx hb dX11_isJoint_44 rfl (lv_at hl 2 rfl) ?_
        refine lv_iload hx hb dX11_isJoint_45 (lv_at hl 0 rfl) ?_
        refine lv_i2l (v := p1.toInt64) hx hb dX11_isJoint_47 rfl ?_
        refine lv_lconst (v := (0 : Int32).toInt64) hx hb dX11_isJoint_48 (by decide) ?_
        refine lv_ldc2 (v := 20) hx hb hown (hts _ (List.mem_cons_of_mem _ (List.mem_append_left _ (List.mem_of_getElem? (i := 0) rfl)))) dX11_isJoint_49 ?_
        refine lv_topl (fun z_9 e_9 => ?_)
        obtain rfl : (20 : Int32).toInt64 = z_9 := (e_9.trans (by decide)).symm
        have hPc := hP.sub (ws' := []) [] rfl
        have hDc := hD.sub (ws' := []) [] (by decide) rfl
        have hKc := hK.sub (tys' := []) [] rfl
        have hFc : ∀ q : Nat, H.size ≤ q → A q := fun q h => hA q (Nat.le_trans hS.1 h)
        refine va_calli (va_runS (As := [.long p1.toInt64, .long ((0 : Int32).toInt64), .long ((20 : Int32).toInt64)]) (rest := [.int 0]) ⟨hx, hb, hml, hown, hts⟩ (c_X11_isIn l dC dI e0 p1 0 20 H.size) (cwS 3 hts (goodIn_sub (fun _ h9 => List.mem_cons_of_mem _ (List.mem_append_right _ (h9))) (by decide +kernel)) rfl rfl rfl (by decide +kernel) ⟨(Nat.le_of_ble_eq_true rfl), (Nat.le_of_ble_eq_true rfl)⟩) ⟨fz_blind, fz_pre hPc hKc hDc hAm hS hFc⟩ rfl rfl hl.1 rfl (lv_room (Nat.le_of_ble_eq_true rfl)) dX11_isJoint_52 ⟨(Nat.le_of_ble_eq_true rfl), (Nat.le_of_ble_eq_true rfl)⟩) hS (fun q _ h => hFc q h) hFc (fun r u t H1 locs ht hvm hw hB hz1 hk1 hS => ?_)
        rcases hw with ⟨rfl, hp_79⟩ | ⟨rfl, hp_80⟩
        · have hP := fz_keep hP hk1
          generalize H1 = H at hP hS ⊢
          have hP : va_P (dC, dI) vwCl [(h0, .inl (cI, 4, .inl (upd (upd (upd (upd (fun _ => 0) (0 : Int32).toNatClampNeg p0) (1 : Int32).toNatClampNeg p1) (2 : Int32).toNatClampNeg p2) (3 : Int32).toNatClampNeg p3)))] H := hP
          refine W.widen (k := 0) (n := 0) (Nat.le_of_ble_eq_true rfl) (Nat.le_of_ble_eq_true rfl) ?_
          refine lv_iand hx hb dX11_isJoint_55 ?_
          refine lv_topi (fun z_9 e_9 => ?_)
          obtain rfl : 0 = z_9 := (e_9.trans (by decide)).symm
          refine lv_istore_n (lv' := [(1, .int 0), (5, .int p1), (4, .int 1), (3, .int 4), (2, .ref h0), (0, .ref h0)]) hx hb dX11_isJoint_56 rfl hl (by decide) rfl (fun ls hl => ?_)
          refine lv_iinc (v := 2) (lv' := [(4, .int 2), (1, .int 0), (5, .int p1), (3, .int 4), (2, .ref h0), (0, .ref h0)]) hx hb dX11_isJoint_57 hl (k := 2) rfl (by decide) (by decide) rfl (fun ls hl => ?_)
          refine lv_goto (tgt := 32) hx hb dX11_isJoint_60 (by decide) ?_
          refine lv_iload hx hb dX11_isJoint_32 (lv_at hl 0 rfl) ?_
          refine lv_iload_n hx hb dX11_isJoint_34 rfl (lv_at hl 3 rfl) ?_
          refine lv_icmp_ge (tgt := 63) hx hb dX11_isJoint_35 (by decide) (fun c_9 => absurd c_9 (by decide)) (fun _ => ?_)
          refine lv_aload_n hx hb dX11_isJoint_38 rfl (lv_at hl 4 rfl) ?_
          refine lv_iload hx hb dX11_isJoint_39 (lv_at hl 0 rfl) ?_
          refine va_iald hx hb hK hP 0 0 rfl rfl (fz_il (by decide)) dX11_isJoint_41 ?_
          refine lv_topi (fun z_9 e_9 => ?_)
          obtain rfl : p2 = z_9 := (e_9.trans (by first | rfl | simp [upd])).symm
          refine lv_istore (lv' := [(5, .int p2), (4, .int 2), (1, .int 0), (3, .int 4), (2, .ref h0), (0, .ref h0)]) hx hb dX11_isJoint_42 hl (by decide) rfl (fun ls hl => ?_)
          refine lv_iload_n hx hb dX11_isJoint_44 rfl (lv_at hl 2 rfl) ?_
          refine lv_iload hx hb dX11_isJoint_45 (lv_at hl 0 rfl) ?_
          refine lv_i2l (v := p2.toInt64) hx hb dX11_isJoint_47 rfl ?_
          refine lv_lconst (v := (0 : Int32).toInt64) hx hb dX11_isJoint_48 (by decide) ?_
          refine lv_ldc2 (v := 20) hx hb hown (hts _ (List.mem_cons_of_mem _ (List.mem_append_left _ (List.mem_of_getElem? (i := 0) rfl)))) dX11_isJoint_49 ?_
          refine lv_topl (fun z_9 e_9 => ?_)
          obtain rfl : (20 : Int32).toInt64 = z_9 := (e_9.trans (by decide)).symm
          have hPc := hP.sub (ws' := []) [] rfl
          have hDc := hD.sub (ws' := []) [] (by decide) rfl
          have hKc := hK.sub (tys' := []) [] rfl
          have hFc : ∀ q : Nat, H.size ≤ q → A q := fun q h => hA q (Nat.le_trans hS.1 h)
          refine va_calli (va_runS (As := [.long p2.toInt64, .long ((0 : Int32).toInt64), .long ((20 : Int32).toInt64)]) (rest := [.int 0]) ⟨hx, hb, hml, hown, hts⟩ (c_X11_isIn l dC dI e0 p2 0 20 H.size) (cwS 3 hts (goodIn_sub (fun _ h9 => List.mem_cons_of_mem _ (List.mem_append_right _ (h9))) (by decide +kernel)) rfl rfl rfl (by decide +kernel) ⟨(Nat.le_of_ble_eq_true rfl), (Nat.le_of_ble_eq_true rfl)⟩) ⟨fz_blind, fz_pre hPc hKc hDc hAm hS hFc⟩ rfl rfl hl.1 rfl (lv_room (Nat.le_of_ble_eq_true rfl)) dX11_isJoint_52 ⟨(Nat.le_of_ble_eq_true rfl), (Nat.le_of_ble_eq_true rfl)⟩) hS (fun q _ h => hFc q h) hFc (fun r u t H1 locs ht hvm hw hB hz1 hk1 hS => ?_)
          rcases hw with ⟨rfl, hp_81⟩ | ⟨rfl, hp_82⟩
          · have hP := fz_keep hP hk1
            generalize H1 = H at hP hS ⊢
            have hP : va_P (dC, dI) vwCl [(h0, .inl (cI, 4, .inl (upd (upd (upd (upd (fun _ => 0) (0 : Int32).toNatClampNeg p0) (1 : Int32).toNatClampNeg p1) (2 : Int32).toNatClampNeg p2) (3 : Int32).toNatClampNeg p3)))] H := hP
            refine W.widen (k := 0) (n := 0) (Nat.le_of_ble_eq_true rfl) (Nat.le_of_ble_eq_true rfl) ?_
            refine lv_iand hx hb dX11_isJoint_55 ?_
            refine lv_topi (fun z_9 e_9 => ?_)
            obtain rfl : 0 = z_9 := (e_9.trans (by decide)).symm
            refine lv_istore_n (lv' := [(1, .int 0), (5, .int p2), (4, .int 2), (3, .int 4), (2, .ref h0), (0, .ref h0)]) hx hb dX11_isJoint_56 rfl hl (by decide) rfl (fun ls hl => ?_)
            refine lv_iinc (v := 3) (lv' := [(4, .int 3), (1, .int 0), (5, .int p2), (3, .int 4), (2, .ref h0), (0, .ref h0)]) hx hb dX11_isJoint_57 hl (k := 2) rfl (by decide) (by decide) rfl (fun ls hl => ?_)
            refine lv_goto (tgt := 32) hx hb dX11_isJoint_60 (by decide) ?_
            refine lv_iload hx hb dX11_isJoint_32 (lv_at hl 0 rfl) ?_
            refine lv_iload_n hx hb dX11_isJoint_34 rfl (lv_at hl 3 rfl) ?_
            refine lv_icmp_ge (tgt := 63) hx hb dX11_isJoint_35 (by decide) (fun c_9 => absurd c_9 (by decide)) (fun _ => ?_)
            refine lv_aload_n hx hb dX11_isJoint_38 rfl (lv_at hl 4 rfl) ?_
            refine lv_iload hx hb dX11_isJoint_39 (lv_at hl 0 rfl) ?_
            refine va_iald hx hb hK hP 0 0 rfl rfl (fz_il (by decide)) dX11_isJoint_41 ?_
            refine lv_topi (fun z_9 e_9 => ?_)
            obtain rfl : p3 = z_9 := (e_9.trans (by first | rfl | simp [upd])).symm
            refine lv_istore (lv' := [(5, .int p3), (4, .int 3), (1, .int 0), (3, .int 4), (2, .ref h0), (0, .ref h0)]) hx hb dX11_isJoint_42 hl (by decide) rfl (fun ls hl => ?_)
            refine lv_iload_n hx hb dX11_isJoint_44 rfl (lv_at hl 2 rfl) ?_
            refine lv_iload hx hb dX11_isJoint_45 (lv_at hl 0 rfl) ?_
            refine lv_i2l (v := p3.toInt64) hx hb dX11_isJoint_47 rfl ?_
            refine lv_lconst (v := (0 : Int32).toInt64) hx hb dX11_isJoint_48 (by decide) ?_
            refine lv_ldc2 (v := 20) hx hb hown (hts _ (List.mem_cons_of_mem _ (List.mem_append_left _ (List.mem_of_getElem? (i := 0) rfl)))) dX11_isJoint_49 ?_
            refine lv_topl (fun z_9 e_9 => ?_)
            obtain rfl : (20 : Int32).toInt64 = z_9 := (e_9.trans (by decide)).symm
            have hPc := hP.sub (ws' := []) [] rfl
            have hDc := hD.sub (ws' := []) [] (by decide) rfl
            have hKc := hK.sub (tys' := []) [] rfl
            have hFc : ∀ q : Nat, H.size ≤ q → A q := fun q h => hA q (Nat.le_trans hS.1 h)
            refine va_calli (va_runS (As := [.long p3.toInt64, .long ((0 : Int32).toInt64), .long ((20 : Int32).toInt64)]) (rest := [.int 0]) ⟨hx, hb, hml, hown, hts⟩ (c_X11_isIn l dC dI e0 p3 0 20 H.size) (cwS 3 hts (goodIn_sub (fun _ h9 => List.mem_cons_of_mem _ (List.mem_append_right _ (h9))) (by decide +kernel)) rfl rfl rfl (by decide +kernel) ⟨(Nat.le_of_ble_eq_true rfl), (Nat.le_of_ble_eq_true rfl)⟩) ⟨fz_blind, fz_pre hPc hKc hDc hAm hS hFc⟩ rfl rfl hl.1 rfl (lv_room (Nat.le_of_ble_eq_true rfl)) dX11_isJoint_52 ⟨(Nat.le_of_ble_eq_true rfl), (Nat.le_of_ble_eq_true rfl)⟩) hS (fun q _ h => hFc q h) hFc (fun r u t H1 locs ht hvm hw hB hz1 hk1 hS => ?_)
            rcases hw with ⟨rfl, hp_83⟩ | ⟨rfl, hp_84⟩
            · have hP := fz_keep hP hk1
              generalize H1 = H at hP hS ⊢
              have hP : va_P (dC, dI) vwCl [(h0, .inl (cI, 4, .inl (upd (upd (upd (upd (fun _ => 0) (0 : Int32).toNatClampNeg p0) (1 : Int32).toNatClampNeg p1) (2 : Int32).toNatClampNeg p2) (3 : Int32).toNatClampNeg p3)))] H := hP
              refine W.widen (k := 0) (n := 0) (Nat.le_of_ble_eq_true rfl) (Nat.le_of_ble_eq_true rfl) ?_
              refine lv_iand hx hb dX11_isJoint_55 ?_
              refine lv_topi (fun z_9 e_9 => ?_)
              obtain rfl : 0 = z_9 := (e_9.trans (by decide)).symm
              refine lv_istore_n (lv' := [(1, .int 0), (5, .int p3), (4, .int 3), (3, .int 4), (2, .ref h0), (0, .ref h0)]) hx hb dX11_isJoint_56 rfl hl (by decide) rfl (fun ls hl => ?_)
              refine lv_iinc (v := 4) (lv' := [(4, .int 4), (1, .int 0), (5, .int p3), (3, .int 4), (2, .ref h0), (0, .ref h0)]) hx hb dX11_isJoint_57 hl (k := 2) rfl (by decide) (by decide) rfl (fun ls hl => ?_)
              refine lv_goto (tgt := 32) hx hb dX11_isJoint_60 (by decide) ?_
              refine lv_iload hx hb dX11_isJoint_32 (lv_at hl 0 rfl) ?_
              refine lv_iload_n hx hb dX11_isJoint_34 rfl (lv_at hl 3 rfl) ?_
              refine lv_icmp_ge (tgt := 63) hx hb dX11_isJoint_35 (by decide) (fun _ => ?_) (fun c_9 => absurd (by decide) c_9)
              refine lv_iload_n hx hb dX11_isJoint_63 rfl (lv_at hl 1 rfl) ?_
              refine W.widen (k := 0) (n := 0) (Nat.le_of_ble_eq_true rfl) (Nat.le_of_ble_eq_true rfl) ?_
              exact W.zret (v := 0) hx hb hr rfl (fun t ht hW => ⟨⟨0, (), rfl, Or.inr (⟨rfl, (q_c_X11_isJoint_40 c_1 c_32 hp_64 hp_79 hp_81 hp_83)⟩), trivial⟩, hS.F ht⟩) hS.2.2 dX11_isJoint_64
            · have hP := fz_keep hP hk1
              generalize H1 = H at hP hS ⊢
              have hP : va_P (dC, dI) vwCl [(h0, .inl (cI, 4, .inl (upd (upd (upd (upd (fun _ => 0) (0 : Int32).toNatClampNeg p0) (1 : Int32).toNatClampNeg p1) (2 : Int32).toNatClampNeg p2) (3 : Int32).toNatClampNeg p3)))] H := hP
              refine W.widen (k := 0) (n := 0) (Nat.le_of_ble_eq_true rfl) (Nat.le_of_ble_eq_true rfl) ?_
              refine lv_iand hx hb dX11_isJoint_55 ?_
              refine lv_topi (fun z_9 e_9 => ?_)
              obtain rfl : 0 = z_9 := (e_9.trans (by decide)).symm
              refine lv_istore_n (lv' := [(1, .int 0), (5, .int p3), (4, .int 3), (3, .int 4), (2, .ref h0), (0, .ref h0)]) hx hb dX11_isJoint_56 rfl hl (by decide) rfl (fun ls hl => ?_)
              refine lv_iinc (v := 4) (lv' := [(4, .int 4), (1, .int 0), (5, .int p3), (3, .int 4), (2, .ref h0), (0, .ref h0)]) hx hb dX11_isJoint_57 hl (k := 2) rfl (by decide) (by decide) rfl (fun ls hl => ?_)
              refine lv_goto (tgt := 32) hx hb dX11_isJoint_60 (by decide) ?_
              refine lv_iload hx hb dX11_isJoint_32 (lv_at hl 0 rfl) ?_
              refine lv_iload_n hx hb dX11_isJoint_34 rfl (lv_at hl 3 rfl) ?_
              refine lv_icmp_ge (tgt := 63) hx hb dX11_isJoint_35 (by decide) (fun _ => ?_) (fun c_9 => absurd (by decide) c_9)
              refine lv_iload_n hx hb dX11_isJoint_63 rfl (lv_at hl 1 rfl) ?_
              refine W.widen (k := 0) (n := 0) (Nat.le_of_ble_eq_true rfl) (Nat.le_of_ble_eq_true rfl) ?_
              exact W.zret (v := 0) hx hb hr rfl (fun t ht hW => ⟨⟨0, (), rfl, Or.inr (⟨rfl, (q_c_X11_isJoint_41 c_1 c_32 hp_64 hp_79 hp_81 hp_84)⟩), trivial⟩, hS.F ht⟩) hS.2.2 dX11_isJoint_64
          · have hP := fz_keep hP hk1
            generalize H1 = H at hP hS ⊢
            have hP : va_P (dC, dI) vwCl [(h0, .inl (cI, 4, .inl (upd (upd (upd (upd (fun _ => 0) (0 : Int32).toNatClampNeg p0) (1 : Int32).toNatClampNeg p1) (2 : Int32).toNatClampNeg p2) (3 : Int32).toNatClampNeg p3)))] H := hP
            refine W.widen (k := 0) (n := 0) (Nat.le_of_ble_eq_true rfl) (Nat.le_of_ble_eq_true rfl) ?_
            refine lv_iand hx hb dX11_isJoint_55 ?_
            refine lv_topi (fun z_9 e_9 => ?_)
            obtain rfl : 0 = z_9 := (e_9.trans (by decide)).symm
            refine lv_istore_n (lv' := [(1, .int 0), (5, .int p2), (4, .int 2), (3, .int 4), (2, .ref h0), (0, .ref h0)]) hx hb dX11_isJoint_56 rfl hl (by decide) rfl (fun ls hl => ?_)
            refine lv_iinc (v := 3) (lv' := [(4, .int 3), (1, .int 0), (5, .int p2), (3, .int 4), (2, .ref h0), (0, .ref h0)]) hx hb dX11_isJoint_57 hl (k := 2) rfl (by decide) (by decide) rfl (fun ls hl => ?_)
            refine lv_goto (tgt := 32) hx hb dX11_isJoint_60 (by decide) ?_
            refine lv_iload hx hb dX11_isJoint_32 (lv_at hl 0 rfl) ?_
            refine lv_iload_n hx hb dX11_isJoint_34 rfl (lv_at hl 3 rfl) ?_
            refine lv_icmp_ge (tgt := 63) hx hb dX11_isJoint_35 (by decide) (fun c_9 => absurd c_9 (by decide)) (fun _ => ?_)
            refine lv_aload_n hx hb dX11_isJoint_38 rfl (lv_at hl 4 rfl) ?_
            refine lv_iload hx hb dX11_isJoint_39 (lv_at hl 0 rfl) ?_
            refine va_iald hx hb hK hP 0 0 rfl rfl (fz_il (by decide)) dX11_isJoint_41 ?_
            refine lv_topi (fun z_9 e_9 => ?_)
            obtain rfl : p3 = z_9 := (e_9.trans (by first | rfl | simp [upd])).symm
            refine lv_istore (lv' := [(5, .int p3), (4, .int 3), (1, .int 0), (3, .int 4), (2, .ref h0), (0, .ref h0)]) hx hb dX11_isJoint_42 hl (by decide) rfl (fun ls hl => ?_)
            refine lv_iload_n hx hb dX11_isJoint_44 rfl (lv_at hl 2 rfl) ?_
            refine lv_iload hx hb dX11_isJoint_45 (lv_at hl 0 rfl) ?_
            refine lv_i2l (v := p3.toInt64) hx hb dX11_isJoint_47 rfl ?_
            refine lv_lconst (v := (0 : Int32).toInt64) hx hb dX11_isJoint_48 (by decide) ?_
            refine lv_ldc2 (v := 20) hx hb hown (hts _ (List.mem_cons_of_mem _ (List.mem_append_left _ (List.mem_of_getElem? (i := 0) rfl)))) dX11_isJoint_49 ?_
            refine lv_topl (fun z_9 e_9 => ?_)
            obtain rfl : (20 : Int32).toInt64 = z_9 := (e_9.trans (by decide)).symm
            have hPc := hP.sub (ws' := []) [] rfl
            have hDc := hD.sub (ws' := []) [] (by decide) rfl
            have hKc := hK.sub (tys' := []) [] rfl
            have hFc : ∀ q : Nat, H.size ≤ q → A q := fun q h => hA q (Nat.le_trans hS.1 h)
            refine va_calli (va_runS (As := [.long p3.toInt64, .long ((0 : Int32).toInt64), .long ((20 : Int32).toInt64)]) (rest := [.int 0]) ⟨hx, hb, hml, hown, hts⟩ (c_X11_isIn l dC dI e0 p3 0 20 H.size) (cwS 3 hts (goodIn_sub (fun _ h9 => List.mem_cons_of_mem _ (List.mem_append_right _ (h9))) (by decide +kernel)) rfl rfl rfl (by decide +kernel) ⟨(Nat.le_of_ble_eq_true rfl), (Nat.le_of_ble_eq_true rfl)⟩) ⟨fz_blind, fz_pre hPc hKc hDc hAm hS hFc⟩ rfl rfl hl.1 rfl (lv_room (Nat.le_of_ble_eq_true rfl)) dX11_isJoint_52 ⟨(Nat.le_of_ble_eq_true rfl), (Nat.le_of_ble_eq_true rfl)⟩) hS (fun q _ h => hFc q h) hFc (fun r u t H1 locs ht hvm hw hB hz1 hk1 hS => ?_)
            rcases hw with ⟨rfl, hp_85⟩ | ⟨rfl, hp_86⟩
            · have hP := fz_keep hP hk1
              generalize H1 = H at hP hS ⊢
              have hP : va_P (dC, dI) vwCl [(h0, .inl (cI, 4, .inl (upd (upd (upd (upd (fun _ => 0) (0 : Int32).toNatClampNeg p0) (1 : Int32).toNatClampNeg p1) (2 : Int32).toNatClampNeg p2) (3 : Int32).toNatClampNeg p3)))] H := hP
              refine W.widen (k := 0) (n := 0) (Nat.le_of_ble_eq_true rfl) (Nat.le_of_ble_eq_true rfl) ?_
              refine lv_iand hx hb dX11_isJoint_55 ?_
              refine lv_topi (fun z_9 e_9 => ?_)
              obtain rfl : 0 = z_9 := (e_9.trans (by decide)).symm
              refine lv_istore_n (lv' := [(1, .int 0), (5, .int p3), (4, .int 3), (3, .int 4), (2, .ref h0), (0, .ref h0)]) hx hb dX11_isJoint_56 rfl hl (by decide) rfl (fun ls hl => ?_)
              refine lv_iinc (v := 4) (lv' := [(4, .int 4), (1, .int 0), (5, .int p3), (3, .int 4), (2, .ref h0), (0, .ref h0)]) hx hb dX11_isJoint_57 hl (k := 2) rfl (by decide) (by decide) rfl (fun ls hl => ?_)
              refine lv_goto (tgt := 32) hx hb dX11_isJoint_60 (by decide) ?_
              refine lv_iload hx hb dX11_isJoint_32 (lv_at hl 0 rfl) ?_
              refine lv_iload_n hx hb dX11_isJoint_34 rfl (lv_at hl 3 rfl) ?_
              refine lv_icmp_ge (tgt := 63) hx hb dX11_isJoint_35 (by decide) (fun _ => ?_) (fun c_9 => absurd (by decide) c_9)
              refine lv_iload_n hx hb dX11_isJoint_63 rfl (lv_at hl 1 rfl) ?_
              refine W.widen (k := 0) (n := 0) (Nat.le_of_ble_eq_true rfl) (Nat.le_of_ble_eq_true rfl) ?_
              exact W.zret (v := 0) hx hb hr rfl (fun t ht hW => ⟨⟨0, (), rfl, Or.inr (⟨rfl, (q_c_X11_isJoint_42 c_1 c_32 hp_64 hp_79 hp_82 hp_85)⟩), trivial⟩, hS.F ht⟩) hS.2.2 dX11_isJoint_64
            · have hP := fz_keep hP hk1
              generalize H1 = H at hP hS ⊢
              have hP : va_P (dC, dI) vwCl [(h0, .inl (cI, 4, .inl (upd (upd (upd (upd (fun _ => 0) (0 : Int32).toNatClampNeg p0) (1 : Int32).toNatClampNeg p1) (2 : Int32).toNatClampNeg p2) (3 : Int32).toNatClampNeg p3)))] H := hP
              refine W.widen (k := 0) (n := 0) (Nat.le_of_ble_eq_true rfl) (Nat.le_of_ble_eq_true rfl) ?_
              refine lv_iand hx hb dX11_isJoint_55 ?_
              refine lv_topi (fun z_9 e_9 => ?_)
              obtain rfl : 0 = z_9 := (e_9.trans (by decide)).symm
              refine lv_istore_n (lv' := [(1, .int 0), (5, .int p3), (4, .int 3), (3, .int 4), (2, .ref h0), (0, .ref h0)]) hx hb dX11_isJoint_56 rfl hl (by decide) rfl (fun ls hl => ?_)
              refine lv_iinc (v := 4) (lv' := [(4, .int 4), (1, .int 0), (5, .int p3), (3, .int 4), (2, .ref h0), (0, .ref h0)]) hx hb dX11_isJoint_57 hl (k := 2) rfl (by decide) (by decide) rfl (fun ls hl => ?_)
              refine lv_goto (tgt := 32) hx hb dX11_isJoint_60 (by decide) ?_
              refine lv_iload hx hb dX11_isJoint_32 (lv_at hl 0 rfl) ?_
              refine lv_iload_n hx hb dX11_isJoint_34 rfl (lv_at hl 3 rfl) ?_
              refine lv_icmp_ge (tgt := 63) hx hb dX11_isJoint_35 (by decide) (fun _ => ?_) (fun c_9 => absurd (by decide) c_9)
              refine lv_iload_n hx hb dX11_isJoint_63 rfl (lv_at hl 1 rfl) ?_
              refine W.widen (k := 0) (n := 0) (Nat.le_of_ble_eq_true rfl) (Nat.le_of_ble_eq_true rfl) ?_
              exact W.zret (v := 0) hx hb hr rfl (fun t ht hW => ⟨⟨0, (), rfl, Or.inr (⟨rfl, (q_c_X11_isJoint_43 c_1 c_32 hp_64 hp_79 hp_82 hp_86)⟩), trivial⟩, hS.F ht⟩) hS.2.2 dX11_isJoint_64
        · have hP := fz_keep hP hk1
          generalize H1 = H at hP hS ⊢
          have hP : va_P (dC, dI) vwCl [(h0, .inl (cI, 4, .inl (upd (upd (upd (upd (fun _ => 0) (0 : Int32).toNatClampNeg p0) (1 : Int32).toNatClampNeg p1) (2 : Int32).toNatClampNeg p2) (3 : Int32).toNatClampNeg p3)))] H := hP
          refine W.widen (k := 0) (n := 0) (Nat.le_of_ble_eq_true rfl) (Nat.le_of_ble_eq_true rfl) ?_
          refine lv_iand hx hb dX11_isJoint_55 ?_
          refine lv_topi (fun z_9 e_9 => ?_)
          obtain rfl : 0 = z_9 := (e_9.trans (by decide)).symm
          refine lv_istore_n (lv' := [(1, .int 0), (5, .int p1), (4, .int 1), (3, .int 4), (2, .ref h0), (0, .ref h0)]) hx hb dX11_isJoint_56 rfl hl (by decide) rfl (fun ls hl => ?_)
          refine lv_iinc (v := 2) (lv' := [(4, .int 2), (1, .int 0), (5, .int p1), (3, .int 4), (2, .ref h0), (0, .ref h0)]) hx hb dX11_isJoint_57 hl (k := 2) rfl (by decide) (by decide) rfl (fun ls hl => ?_)
          refine lv_goto (tgt := 32) hx hb dX11_isJoint_60 (by decide) ?_
          refine lv_iload hx hb dX11_isJoint_32 (lv_at hl 0 rfl) ?_
          refine lv_iload_n hx hb dX11_isJoint_34 rfl (lv_at hl 3 rfl) ?_
          refine lv_icmp_ge (tgt := 63) hx hb dX11_isJoint_35 (by decide) (fun c_9 => absurd c_9 (by decide)) (fun _ => ?_)
          refine lv_aload_n hx hb dX11_isJoint_38 rfl (lv_at hl 4 rfl) ?_
          refine lv_iload hx hb dX11_isJoint_39 (lv_at hl 0 rfl) ?_
          refine va_iald hx hb hK hP 0 0 rfl rfl (fz_il (by decide)) dX11_isJoint_41 ?_
          refine lv_topi (fun z_9 e_9 => ?_)
          obtain rfl : p2 = z_9 := (e_9.trans (by first | rfl | simp [upd])).symm
          refine lv_istore (lv' := [(5, .int p2), (4, .int 2), (1, .int 0), (3, .int 4), (2, .ref h0), (0, .ref h0)]) hx hb dX11_isJoint_42 hl (by decide) rfl (fun ls hl => ?_)
          refine lv_iload_n hx hb dX11_isJoint_44 rfl (lv_at hl 2 rfl) ?_
          refine lv_iload hx hb dX11_isJoint_45 (lv_at hl 0 rfl) ?_
          refine lv_i2l (v := p2.toInt64) hx hb dX11_isJoint_47 rfl ?_
          refine lv_lconst (v := (0 : Int32).toInt64) hx hb dX11_isJoint_48 (by decide) ?_
          refine lv_ldc2 (v := 20) hx hb hown (hts _ (List.mem_cons_of_mem _ (List.mem_append_left _ (List.mem_of_getElem? (i := 0) rfl)))) dX11_isJoint_49 ?_
          refine lv_topl (fun z_9 e_9 => ?_)
          obtain rfl : (20 : Int32).toInt64 = z_9 := (e_9.trans (by decide)).symm
          have hPc := hP.sub (ws' := []) [] rfl
          have hDc := hD.sub (ws' := []) [] (by decide) rfl
          have hKc := hK.sub (tys' := []) [] rfl
          have hFc : ∀ q : Nat, H.size ≤ q → A q := fun q h => hA q (Nat.le_trans hS.1 h)
          refine va_calli (va_runS (As := [.long p2.toInt64, .long ((0 : Int32).toInt64), .long ((20 : Int32).toInt64)]) (rest := [.int 0]) ⟨hx, hb, hml, hown, hts⟩ (c_X11_isIn l dC dI e0 p2 0 20 H.size) (cwS 3 hts (goodIn_sub (fun _ h9 => List.mem_cons_of_mem _ (List.mem_append_right _ (h9))) (by decide +kernel)) rfl rfl rfl (by decide +kernel) ⟨(Nat.le_of_ble_eq_true rfl), (Nat.le_of_ble_eq_true rfl)⟩) ⟨fz_blind, fz_pre hPc hKc hDc hAm hS hFc⟩ rfl rfl hl.1 rfl (lv_room (Nat.le_of_ble_eq_true rfl)) dX11_isJoint_52 ⟨(Nat.le_of_ble_eq_true rfl), (Nat.le_of_ble_eq_true rfl)⟩) hS (fun q _ h => hFc q h) hFc (fun r u t H1 locs ht hvm hw hB hz1 hk1 hS => ?_)
          rcases hw with ⟨rfl, hp_87⟩ | ⟨rfl, hp_88⟩
          · have hP := fz_keep hP hk1
            generalize H1 = H at hP hS ⊢
            have hP : va_P (dC, dI) vwCl [(h0, .inl (cI, 4, .inl (upd (upd (upd (upd (fun _ => 0) (0 : Int32).toNatClampNeg p0) (1 : Int32).toNatClampNeg p1) (2 : Int32).toNatClampNeg p2) (3 : Int32).toNatClampNeg p3)))] H := hP
            refine W.widen (k := 0) (n := 0) (Nat.le_of_ble_eq_true rfl) (Nat.le_of_ble_eq_true rfl) ?_
            refine lv_iand hx hb dX11_isJoint_55 ?_
            refine lv_topi (fun z_9 e_9 => ?_)
            obtain rfl : 0 = z_9 := (e_9.trans (by decide)).symm
            refine lv_istore_n (lv' := [(1, .int 0), (5, .int p2), (4, .int 2), (3, .int 4), (2, .ref h0), (0, .ref h0)]) hx hb dX11_isJoint_56 rfl hl (by decide) rfl (fun ls hl => ?_)
            refine lv_iinc (v := 3) (lv' := [(4, .int 3), (1, .int 0), (5, .int p2), (3, .int 4), (2, .ref h0), (0, .ref h0)]) hx hb dX11_isJoint_57 hl (k := 2) rfl (by decide) (by decide) rfl (fun ls hl => ?_)
            refine lv_goto (tgt := 32) hx hb dX11_isJoint_60 (by decide) ?_
            refine lv_iload hx hb dX11_isJoint_32 (lv_at hl 0 rfl) ?_
            refine lv_iload_n hx hb dX11_isJoint_34 rfl (lv_at hl 3 rfl) ?_
            refine lv_icmp_ge (tgt := 63) hx hb dX11_isJoint_35 (by decide) (fun c_9 => absurd c_9 (by decide)) (fun _ => ?_)
            refine lv_aload_n hx hb dX11_isJoint_38 rfl (lv_at hl 4 rfl) ?_
            refine lv_iload hx hb dX11_isJoint_39 (lv_at hl 0 rfl) ?_
            refine va_iald hx hb hK hP 0 0 rfl rfl (fz_il (by decide)) dX11_isJoint_41 ?_
            refine lv_topi (fun z_9 e_9 => ?_)
            obtain rfl : p3 = z_9 := (e_9.trans (by first | rfl | simp [upd])).symm
            refine lv_istore (lv' := [(5, .int p3), (4, .int 3), (1, .int 0), (3, .int 4), (2, .ref h0), (0, .ref h0)]) hx hb dX11_isJoint_42 hl (by decide) rfl (fun ls hl => ?_)
            refine lv_iload_n hx hb dX11_isJoint_44 rfl (lv_at hl 2 rfl) ?_
            refine lv_iload hx hb dX11_isJoint_45 (lv_at hl 0 rfl) ?_
            refine lv_i2l (v := p3.toInt64) hx hb dX11_isJoint_47 rfl ?_
            refine lv_lconst (v := (0 : Int32).toInt64) hx hb dX11_isJoint_48 (by decide) ?_
            refine lv_ldc2 (v := 20) hx hb hown (hts _ (List.mem_cons_of_mem _ (List.mem_append_left _ (List.mem_of_getElem? (i := 0) rfl)))) dX11_isJoint_49 ?_
            refine lv_topl (fun z_9 e_9 => ?_)
            obtain rfl : (20 : Int32).toInt64 = z_9 := (e_9.trans (by decide)).symm
            have hPc := hP.sub (ws' := []) [] rfl
            have hDc := hD.sub (ws' := []) [] (by decide) rfl
            have hKc := hK.sub (tys' := []) [] rfl
            have hFc : ∀ q : Nat, H.size ≤ q → A q := fun q h => hA q (Nat.le_trans hS.1 h)
            refine va_calli (va_runS (As := [.long p3.toInt64, .long ((0 : Int32).toInt64), .long ((20 : Int32).toInt64)]) (rest := [.int 0]) ⟨hx, hb, hml, hown, hts⟩ (c_X11_isIn l dC dI e0 p3 0 20 H.size) (cwS 3 hts (goodIn_sub (fun _ h9 => List.mem_cons_of_mem _ (List.mem_append_right _ (h9))) (by decide +kernel)) rfl rfl rfl (by decide +kernel) ⟨(Nat.le_of_ble_eq_true rfl), (Nat.le_of_ble_eq_true rfl)⟩) ⟨fz_blind, fz_pre hPc hKc hDc hAm hS hFc⟩ rfl rfl hl.1 rfl (lv_room (Nat.le_of_ble_eq_true rfl)) dX11_isJoint_52 ⟨(Nat.le_of_ble_eq_true rfl), (Nat.le_of_ble_eq_true rfl)⟩) hS (fun q _ h => hFc q h) hFc (fun r u t H1 locs ht hvm hw hB hz1 hk1 hS => ?_)
            rcases hw with ⟨rfl, hp_89⟩ | ⟨rfl, hp_90⟩
            · have hP := fz_keep hP hk1
              generalize H1 = H at hP hS ⊢
              have hP : va_P (dC, dI) vwCl [(h0, .inl (cI, 4, .inl (upd (upd (upd (upd (fun _ => 0) (0 : Int32).toNatClampNeg p0) (1 : Int32).toNatClampNeg p1) (2 : Int32).toNatClampNeg p2) (3 : Int32).toNatClampNeg p3)))] H := hP
              refine W.widen (k := 0) (n := 0) (Nat.le_of_ble_eq_true rfl) (Nat.le_of_ble_eq_true rfl) ?_
              refine lv_iand hx hb dX11_isJoint_55 ?_
              refine lv_topi (fun z_9 e_9 => ?_)
              obtain rfl : 0 = z_9 := (e_9.trans (by decide)).symm
              refine lv_istore_n (lv' := [(1, .int 0), (5, .int p3), (4, .int 3), (3, .int 4), (2, .ref h0), (0, .ref h0)]) hx hb dX11_isJoint_56 rfl hl (by decide) rfl (fun ls hl => ?_)
              refine lv_iinc (v := 4) (lv' := [(4, .int 4), (1, .int 0), (5, .int p3), (3, .int 4), (2, .ref h0), (0, .ref h0)]) hx hb dX11_isJoint_57 hl (k := 2) rfl (by decide) (by decide) rfl (fun ls hl => ?_)
              refine lv_goto (tgt := 32) hx hb dX11_isJoint_60 (by decide) ?_
              refine lv_iload hx hb dX11_isJoint_32 (lv_at hl 0 rfl) ?_
              refine lv_iload_n hx hb dX11_isJoint_34 rfl (lv_at hl 3 rfl) ?_
              refine lv_icmp_ge (tgt := 63) hx hb dX11_isJoint_35 (by decide) (fun _ => ?_) (fun c_9 => absurd (by decide) c_9)
              refine lv_iload_n hx hb dX11_isJoint_63 rfl (lv_at hl 1 rfl) ?_
              refine W.widen (k := 0) (n := 0) (Nat.le_of_ble_eq_true rfl) (Nat.le_of_ble_eq_true rfl) ?_
              exact W.zret (v := 0) hx hb hr rfl (fun t ht hW => ⟨⟨0, (), rfl, Or.inr (⟨rfl, (q_c_X11_isJoint_44 c_1 c_32 hp_64 hp_80 hp_87 hp_89)⟩), trivial⟩, hS.F ht⟩) hS.2.2 dX11_isJoint_64
            · have hP := fz_keep hP hk1
              generalize H1 = H at hP hS ⊢
              have hP : va_P (dC, dI) vwCl [(h0, .inl (cI, 4, .inl (upd (upd (upd (upd (fun _ => 0) (0 : Int32).toNatClampNeg p0) (1 : Int32).toNatClampNeg p1) (2 : Int32).toNatClampNeg p2) (3 : Int32).toNatClampNeg p3)))] H := hP
              refine W.widen (k := 0) (n := 0) (Nat.le_of_ble_eq_true rfl) (Nat.le_of_ble_eq_true rfl) ?_
              refine lv_iand hx hb dX11_isJoint_55 ?_
              refine lv_topi (fun z_9 e_9 => ?_)
              obtain rfl : 0 = z_9 := (e_9.trans (by decide)).symm
              refine lv_istore_n (lv' := [(1, .int 0), (5, .int p3), (4, .int 3), (3, .int 4), (2, .ref h0), (0, .ref h0)]) hx hb dX11_isJoint_56 rfl hl (by decide) rfl (fun ls hl => ?_)
              refine lv_iinc (v := 4) (lv' := [(4, .int 4), (1, .int 0), (5, .int p3), (3, .int 4), (2, .ref h0), (0, .ref h0)]) hx hb dX11_isJoint_57 hl (k := 2) rfl (by decide) (by decide) rfl (fun ls hl => ?_)
              refine lv_goto (tgt := 32) hx hb dX11_isJoint_60 (by decide) ?_
              refine lv_iload hx hb dX11_isJoint_32 (lv_at hl 0 rfl) ?_
              refine lv_iload_n hx hb dX11_isJoint_34 rfl (lv_at hl 3 rfl) ?_
              refine lv_icmp_ge (tgt := 63) hx hb dX11_isJoint_35 (by decide) (fun _ => ?_) (fun c_9 => absurd (by decide) c_9)
              refine lv_iload_n hx hb dX11_isJoint_63 rfl (lv_at hl 1 rfl) ?_
              refine W.widen (k := 0) (n := 0) (Nat.le_of_ble_eq_true rfl) (Nat.le_of_ble_eq_true rfl) ?_
              exact W.zret (v := 0) hx hb hr rfl (fun t ht hW => ⟨⟨0, (), rfl, Or.inr (⟨rfl, (q_c_X11_isJoint_45 c_1 c_32 hp_64 hp_80 hp_87 hp_90)⟩), trivial⟩, hS.F ht⟩) hS.2.2 dX11_isJoint_64
          · have hP := fz_keep hP hk1
            generalize H1 = H at hP hS ⊢
            have hP : va_P (dC, dI) vwCl [(h0, .inl (cI, 4, .inl (upd (upd (upd (upd (fun _ => 0) (0 : Int32).toNatClampNeg p0) (1 : Int32).toNatClampNeg p1) (2 : Int32).toNatClampNeg p2) (3 : Int32).toNatClampNeg p3)))] H := hP
            refine W.widen (k := 0) (n := 0) (Nat.le_of_ble_eq_true rfl) (Nat.le_of_ble_eq_true rfl) ?_
            refine lv_iand hx hb dX11_isJoint_55 ?_
            refine lv_topi (fun z_9 e_9 => ?_)
            obtain rfl : 0 = z_9 := (e_9.trans (by decide)).symm
            refine lv_istore_n (lv' := [(1, .int 0), (5, .int p2), (4, .int 2), (3, .int 4), (2, .ref h0), (0, .ref h0)]) hx hb dX11_isJoint_56 rfl hl (by decide) rfl (fun ls hl => ?_)
            refine lv_iinc (v := 3) (lv' := [(4, .int 3), (1, .int 0), (5, .int p2), (3, .int 4), (2, .ref h0), (0, .ref h0)]) hx hb dX11_isJoint_57 hl (k := 2) rfl (by decide) (by decide) rfl (fun ls hl => ?_)
            refine lv_goto (tgt := 32) hx hb dX11_isJoint_60 (by decide) ?_
            refine lv_iload hx hb dX11_isJoint_32 (lv_at hl 0 rfl) ?_
            refine lv_iload_n hx hb dX11_isJoint_34 rfl (lv_at hl 3 rfl) ?_
            refine lv_icmp_ge (tgt := 63) hx hb dX11_isJoint_35 (by decide) (fun c_9 => absurd c_9 (by decide)) (fun _ => ?_)
            refine lv_aload_n hx hb dX11_isJoint_38 rfl (lv_at hl 4 rfl) ?_
            refine lv_iload hx hb dX11_isJoint_39 (lv_at hl 0 rfl) ?_
            refine va_iald hx hb hK hP 0 0 rfl rfl (fz_il (by decide)) dX11_isJoint_41 ?_
            refine lv_topi (fun z_9 e_9 => ?_)
            obtain rfl : p3 = z_9 := (e_9.trans (by first | rfl | simp [upd])).symm
            refine lv_istore (lv' := [(5, .int p3), (4, .int 3), (1, .int 0), (3, .int 4), (2, .ref h0), (0, .ref h0)]) hx hb dX11_isJoint_42 hl (by decide) rfl (fun ls hl => ?_)
            refine lv_iload_n hx hb dX11_isJoint_44 rfl (lv_at hl 2 rfl) ?_
            refine lv_iload hx hb dX11_isJoint_45 (lv_at hl 0 rfl) ?_
            refine lv_i2l (v := p3.toInt64) hx hb dX11_isJoint_47 rfl ?_
            refine lv_lconst (v := (0 : Int32).toInt64) hx hb dX11_isJoint_48 (by decide) ?_
            refine lv_ldc2 (v := 20) hx hb hown (hts _ (List.mem_cons_of_mem _ (List.mem_append_left _ (List.mem_of_getElem? (i := 0) rfl)))) dX11_isJoint_49 ?_
            refine lv_topl (fun z_9 e_9 => ?_)
            obtain rfl : (20 : Int32).toInt64 = z_9 := (e_9.trans (by decide)).symm
            have hPc := hP.sub (ws' := []) [] rfl
            have hDc := hD.sub (ws' := []) [] (by decide) rfl
            have hKc := hK.sub (tys' := []) [] rfl
            have hFc : ∀ q : Nat, H.size ≤ q → A q := fun q h => hA q (Nat.le_trans hS.1 h)
            refine va_calli (va_runS (As := [.long p3.toInt64, .long ((0 : Int32).toInt64), .long ((20 : Int32).toInt64)]) (rest := [.int 0]) ⟨hx, hb, hml, hown, hts⟩ (c_X11_isIn l dC dI e0 p3 0 20 H.size) (cwS 3 hts (goodIn_sub (fun _ h9 => List.mem_cons_of_mem _ (List.mem_append_right _ (h9))) (by decide +kernel)) rfl rfl rfl (by decide +kernel) ⟨(Nat.le_of_ble_eq_true rfl), (Nat.le_of_ble_eq_true rfl)⟩) ⟨fz_blind, fz_pre hPc hKc hDc hAm hS hFc⟩ rfl rfl hl.1 rfl (lv_room (Nat.le_of_ble_eq_true rfl)) dX11_isJoint_52 ⟨(Nat.le_of_ble_eq_true rfl), (Nat.le_of_ble_eq_true rfl)⟩) hS (fun q _ h => hFc q h) hFc (fun r u t H1 locs ht hvm hw hB hz1 hk1 hS => ?_)
            rcases hw with ⟨rfl, hp_91⟩ | ⟨rfl, hp_92⟩
            · have hP := fz_keep hP hk1
              generalize H1 = H at hP hS ⊢
              have hP : va_P (dC, dI) vwCl [(h0, .inl (cI, 4, .inl (upd (upd (upd (upd (fun _ => 0) (0 : Int32).toNatClampNeg p0) (1 : Int32).toNatClampNeg p1) (2 : Int32).toNatClampNeg p2) (3 : Int32).toNatClampNeg p3)))] H := hP
              refine W.widen (k := 0) (n := 0) (Nat.le_of_ble_eq_true rfl) (Nat.le_of_ble_eq_true rfl) ?_
              refine lv_iand hx hb dX11_isJoint_55 ?_
              refine lv_topi (fun z_9 e_9 => ?_)
              obtain rfl : 0 = z_9 := (e_9.trans (by decide)).symm
              refine lv_istore_n (lv' := [(1, .int 0), (5, .int p3), (4, .int 3), (3, .int 4), (2, .ref h0), (0, .ref h0)]) hx hb dX11_isJoint_56 rfl hl (by decide) rfl (fun ls hl => ?_)
              refine lv_iinc (v := 4) (lv' := [(4, .int 4), (1, .int 0), (5, .int p3), (3, .int 4), (2, .ref h0), (0, .ref h0)]) hx hb dX11_isJoint_57 hl (k := 2) rfl (by decide) (by decide) rfl (fun ls hl => ?_)
              refine lv_goto (tgt := 32) hx hb dX11_isJoint_60 (by decide) ?_
              refine lv_iload hx hb dX11_isJoint_32 (lv_at hl 0 rfl) ?_
              refine lv_iload_n hx hb dX11_isJoint_34 rfl (lv_at hl 3 rfl) ?_
              refine lv_icmp_ge (tgt := 63) hx hb dX11_isJoint_35 (by decide) (fun _ => ?_) (fun c_9 => absurd (by decide) c_9)
              refine lv_iload_n hx hb dX11_isJoint_63 rfl (lv_at hl 1 rfl) ?_
              refine W.widen (k := 0) (n := 0) (Nat.le_of_ble_eq_true rfl) (Nat.le_of_ble_eq_true rfl) ?_
              exact W.zret (v := 0) hx hb hr rfl (fun t ht hW => ⟨⟨0, (), rfl, Or.inr (⟨rfl, (q_c_X11_isJoint_46 c_1 c_32 hp_64 hp_80 hp_88 hp_91)⟩), trivial⟩, hS.F ht⟩) hS.2.2 dX11_isJoint_64
            · have hP := fz_keep hP hk1
              generalize H1 = H at hP hS ⊢
              have hP : va_P (dC, dI) vwCl [(h0, .inl (cI, 4, .inl (upd (upd (upd (upd (fun _ => 0) (0 : Int32).toNatClampNeg p0) (1 : Int32).toNatClampNeg p1) (2 : Int32).toNatClampNeg p2) (3 : Int32).toNatClampNeg p3)))] H := hP
              refine W.widen (k := 0) (n := 0) (Nat.le_of_ble_eq_true rfl) (Nat.le_of_ble_eq_true rfl) ?_
              refine lv_iand hx hb dX11_isJoint_55 ?_
              refine lv_topi (fun z_9 e_9 => ?_)
              obtain rfl : 0 = z_9 := (e_9.trans (by decide)).symm
              refine lv_istore_n (lv' := [(1, .int 0), (5, .int p3), (4, .int 3), (3, .int 4), (2, .ref h0), (0, .ref h0)]) hx hb dX11_isJoint_56 rfl hl (by decide) rfl (fun ls hl => ?_)
              refine lv_iinc (v := 4) (lv' := [(4, .int 4), (1, .int 0), (5, .int p3), (3, .int 4), (2, .ref h0), (0, .ref h0)]) hx hb dX11_isJoint_57 hl (k := 2) rfl (by decide) (by decide) rfl (fun ls hl => ?_)
              refine lv_goto (tgt := 32) hx hb dX11_isJoint_60 (by decide) ?_
              refine lv_iload hx hb dX11_isJoint_32 (lv_at hl 0 rfl) ?_
              refine lv_iload_n hx hb dX11_isJoint_34 rfl (lv_at hl 3 rfl) ?_
              refine lv_icmp_ge (tgt := 63) hx hb dX11_isJoint_35 (by decide) (fun _ => ?_) (fun c_9 => absurd (by decide) c_9)
              refine lv_iload_n hx hb dX11_isJoint_63 rfl (lv_at hl 1 rfl) ?_
              refine W.widen (k := 0) (n := 0) (Nat.le_of_ble_eq_true rfl) (Nat.le_of_ble_eq_true rfl) ?_
              exact W.zret (v := 0) hx hb hr rfl (fun t ht hW => ⟨⟨0, (), rfl, Or.inr (⟨rfl, (q_c_X11_isJoint_47 c_1 c_32 hp_64 hp_80 hp_88 hp_92)⟩), trivial⟩, hS.F ht⟩) hS.2.2 dX11_isJoint_64
def v_c_X11_standing : List Cond := .code yX11_standing cX11_standing 6 (some .int) :: ([.fieldLink RX11 25 "VoussoirYardModel" "filled" "[I"] ++ (wsX110))
set_option maxRecDepth 20000 in
theorem i_c_X11_standing : ∀ w ∈ v_c_X11_standing, w ∈ lw_tbl := List.forall_mem_cons.mpr ⟨List.mem_of_getElem? (i := 1441) (by decide +kernel), List.forall_mem_append.mpr ⟨List.forall_mem_cons.mpr ⟨List.mem_of_getElem? (i := 1328) (by decide +kernel), fun _ h => absurd h List.not_mem_nil⟩, inX11⟩⟩
set_option maxHeartbeats 4000000 in
set_option maxRecDepth 100000 in
theorem c_X11_standing (l : Launch) (dC : Nat → ClassId) (dI : Nat → Nat → Nat) (e0 : Nat) (g0 mj mq mm ms mf ml : Nat) (th : Int32) (cI : ClassId) (ff : Nat → Int32) (sz : Nat) (hff : ∀ j : Nat, j < 7 → ff j = -1) : Met l yX11_standing v_c_X11_standing ({ frames := 0, cells := 0, slots := 0, locals := 0 }) (fz_P (dC, dI) e0 [(g0, .inr (16, [.ref mj, .ref mq, .ref mm, .ref ms, .ref mf, .ref ml, .int th, .int 0, .int 1, .int 0, .int (-1), .int 0, .int 0, .int 0, .int 0, .int 0, .long 0])), (mf, .inl (cI, 7, .inl ff))] [(cI, .int)] sz (fun q : Nat => sz ≤ q) [.ref g0]) (va_Qi (fun (r : Int32) (u : Unit) => r = 0) (fun (u : Unit) (t : State) => True) (fun q : Nat => sz ≤ q)) 0 0 (fun q : Nat => sz ≤ q) := by
  refine Met.ofW (cc := cX11_standing) (maxL := 6) (ret := (some .int)) (by decide) rfl ?_
  intro p e s m args below meth c s₁ B hml hv
  obtain ⟨rfl, hsz, hP, hK, hD0, hAm⟩ := hv
  have hx := B.exec
  have hb := B.bytes
  have hr := B.returns
  have hts := atoms_spec (ws := v_c_X11_standing) B.pre
  have hown : s.vm.findClass RX11 = some m.cls := findClass_of_methodNamed B.named
  have hlocks := B.notSynchronized
  subst hsz
  have hD := hD0
  generalize hAe : (fun q : Nat => s.heap.size ≤ q) = A at hAm ⊢
  have hA : ∀ q : Nat, s.heap.size ≤ q → A q := fun q h => by rw [← hAe]; exact h
  have hS : va_S A s.heap s.heap [] := va_S.rf
  have hP : va_P (dC, dI) vwCl [(g0, .inr (16, [.ref mj, .ref mq, .ref mm, .ref ms, .ref mf, .ref ml, .int th, .int 0, .int 1, .int 0, .int (-1), .int 0, .int 0, .int 0, .int 0, .int 0, .long 0])), (mf, .inl (cI, 7, .inl ff))] s.heap := hP
  have hl := lv_entry ([.ref g0]) (n := 6) (Nat.le_of_ble_eq_true rfl)
  rw [lg_entry_eq]
  generalize (lg_sl ([.ref g0]) ++ List.replicate (6 - (lg_sl ([.ref g0])).length) Slot.unset).toArray = ls at hl ⊢
  have hl : lv_has ls 6 [(0, .ref g0)] := hl
  refine lv_iconst (v := 0) hx hb dX11_standing_0 (by decide) ?_
  refine lv_istore_n (lv' := [(1, .int 0), (0, .ref g0)]) hx hb dX11_standing_1 rfl hl (by decide) rfl (fun ls hl => ?_)
  refine lv_aload_n hx hb dX11_standing_2 rfl (lv_at hl 1 rfl) ?_
  refine va_get (D := (dC, dI)) (ci := 16) (v := .ref mf) (C := RX11) (T := TX11) (N := 17) hx hb hts (fun _ h9 => List.mem_cons_of_mem _ (List.mem_append_right _ (h9))) hown hK hP 0 rfl rfl 4 (by decide) (hts _ (List.mem_cons_of_mem _ (List.mem_append_left _ (List.mem_of_getElem? (i := 0) rfl)))) (fun _ h9 => h9) rfl dX11_standing_3 ?_
  refine lv_astore_n (lv' := [(2, .ref mf), (1, .int 0), (0, .ref g0)]) hx hb dX11_standing_6 rfl hl (by decide) rfl (fun ls hl => ?_)
  refine lv_aload_n hx hb dX11_standing_7 rfl (lv_at hl 0 rfl) ?_
  refine va_alen hx hb hK hP 1 0 rfl rfl (v := 7) rfl dX11_standing_8 ?_
  refine lv_istore_n (lv' := [(3, .int 7), (2, .ref mf), (1, .int 0), (0, .ref g0)]) hx hb dX11_standing_9 rfl hl (by decide) rfl (fun ls hl => ?_)
  refine lv_iconst (v := 0) hx hb dX11_standing_10 (by decide) ?_
  refine lv_istore (lv' := [(4, .int 0), (3, .int 7), (2, .ref mf), (1, .int 0), (0, .ref g0)]) hx hb dX11_standing_11 hl (by decide) rfl (fun ls hl => ?_)
  refine lv_iload hx hb dX11_standing_13 (lv_at hl 0 rfl) ?_
  refine lv_iload_n hx hb dX11_standing_15 rfl (lv_at hl 1 rfl) ?_
  refine lv_icmp_ge (tgt := 45) hx hb dX11_standing_16 (by decide) (fun c_9 => absurd c_9 (by decide)) (fun _ => ?_)
  refine lv_aload_n hx hb dX11_standing_19 rfl (lv_at hl 2 rfl) ?_
  refine lv_iload hx hb dX11_standing_20 (lv_at hl 0 rfl) ?_
  refine va_iald hx hb hK hP 1 0 rfl rfl (fz_il (by decide)) dX11_standing_22 ?_
  refine lv_topi (fun z_9 e_9 => ?_)
  obtain rfl : (-1) = z_9 := (e_9.trans (hff _ (by decide))).symm
  refine lv_istore (lv' := [(5, .int (-1)), (4, .int 0), (3, .int 7), (2, .ref mf), (1, .int 0), (0, .ref g0)]) hx hb dX11_standing_23 hl (by decide) rfl (fun ls hl => ?_)
  refine lv_iload_n hx hb dX11_standing_25 rfl (lv_at hl 4 rfl) ?_
  refine lv_iload hx hb dX11_standing_26 (lv_at hl 0 rfl) ?_
  refine lv_iconst (v := (-1)) hx hb dX11_standing_28 (by decide) ?_
  refine lv_icmp_ne (tgt := 36) hx hb dX11_standing_29 (by decide) (fun c_9 => absurd (by decide) c_9) (fun _ => ?_)
  refine lv_iconst (v := 0) hx hb dX11_standing_32 (by decide) ?_
  refine lv_goto (tgt := 37) hx hb dX11_standing_33 (by decide) ?_
  refine lv_iadd hx hb dX11_standing_37 ?_
  refine lv_topi (fun z_9 e_9 => ?_)
  obtain rfl : 0 = z_9 := (e_9.trans (by decide)).symm
  refine lv_istore_n (lv' := [(1, .int 0), (5, .int (-1)), (4, .int 0), (3, .int 7), (2, .ref mf), (0, .ref g0)]) hx hb dX11_standing_38 rfl hl (by decide) rfl (fun ls hl => ?_)
  refine lv_iinc (v := 1) (lv' := [(4, .int 1), (1, .int 0), (5, .int (-1)), (3, .int 7), (2, .ref mf), (0, .ref g0)]) hx hb dX11_standing_39 hl (k := 2) rfl (by decide) (by decide) rfl (fun ls hl => ?_)
  refine lv_goto (tgt := 13) hx hb dX11_standing_42 (by decide) ?_
  refine lv_iload hx hb dX11_standing_13 (lv_at hl 0 rfl) ?_
  refine lv_iload_n hx hb dX11_standing_15 rfl (lv_at hl 3 rfl) ?_
  refine lv_icmp_ge (tgt := 45) hx hb dX11_standing_16 (by decide) (fun c_9 => absurd c_9 (by decide)) (fun _ => ?_)
  refine lv_aload_n hx hb dX11_standing_19 rfl (lv_at hl 4 rfl) ?_
  refine lv_iload hx hb dX11_standing_20 (lv_at hl 0 rfl) ?_
  refine va_iald hx hb hK hP 1 0 rfl rfl (fz_il (by decide)) dX11_standing_22 ?_
  refine lv_topi (fun z_9 e_9 => ?_)
  obtain rfl : (-1) = z_9 := (e_9.trans (hff _ (by decide))).symm
  refine lv_istore (lv' := [(5, .int (-1)), (4, .int 1), (1, .int 0), (3, .int 7), (2, .ref mf), (0, .ref g0)]) hx hb dX11_standing_23 hl (by decide) rfl (fun ls hl => ?_)
  refine lv_iload_n hx hb dX11_standing_25 rfl (lv_at hl 2 rfl) ?_
  refine lv_iload hx hb dX11_standing_26 (lv_at hl 0 rfl) ?_
  refine lv_iconst (v := (-1)) hx hb dX11_standing_28 (by decide) ?_
  refine lv_icmp_ne (tgt := 36) hx hb dX11_standing_29 (by decide) (fun c_9 => absurd (by decide) c_9) (fun _ => ?_)
  refine lv_iconst (v := 0) hx hb dX11_standing_32 (by decide) ?_
  refine lv_goto (tgt := 37) hx hb dX11_standing_33 (by decide) ?_
  refine lv_iadd hx hb dX11_standing_37 ?_
  refine lv_topi (fun z_9 e_9 => ?_)
  obtain rfl : 0 = z_9 := (e_9.trans (by decide)).symm
  refine lv_istore_n (lv' := [(1, .int 0), (5, .int (-1)), (4, .int 1), (3, .int 7), (2, .ref mf), (0, .ref g0)]) hx hb dX11_standing_38 rfl hl (by decide) rfl (fun ls hl => ?_)
  refine lv_iinc (v := 2) (lv' := [(4, .int 2), (1, .int 0), (5, .int (-1)), (3, .int 7), (2, .ref mf), (0, .ref g0)]) hx hb dX11_standing_39 hl (k := 2) rfl (by decide) (by decide) rfl (fun ls hl => ?_)
  refine lv_goto (tgt := 13) hx hb dX11_standing_42 (by decide) ?_
  refine lv_iload hx hb dX11_standing_13 (lv_at hl 0 rfl) ?_
  refine lv_iload_n hx hb dX11_standing_15 rfl (lv_at hl 3 rfl) ?_
  refine lv_icmp_ge (tgt := 45) hx hb dX11_standing_16 (by decide) (fun c_9 => absurd c_9 (by decide)) (fun _ => ?_)
  refine lv_aload_n hx hb dX11_standing_19 rfl (lv_at hl 4 rfl) ?_
  refine lv_iload hx hb dX11_standing_20 (lv_at hl 0 rfl) ?_
  refine va_iald hx hb hK hP 1 0 rfl rfl (fz_il (by decide)) dX11_standing_22 ?_
  refine lv_topi (fun z_9 e_9 => ?_)
  obtain rfl : (-1) = z_9 := (e_9.trans (hff _ (by decide))).symm
  refine lv_istore (lv' := [(5, .int (-1)), (4, .int 2), (1, .int 0), (3, .int 7), (2, .ref mf), (0, .ref g0)]) hx hb dX11_standing_23 hl (by decide) rfl (fun ls hl => ?_)
  refine lv_iload_n hx hb dX11_standing_25 rfl (lv_at hl 2 rfl) ?_
  refine lv_iload hx hb dX11_standing_26 (lv_at hl 0 rfl) ?_
  refine lv_iconst (v := (-1)) hx hb dX11_standing_28 (by decide) ?_
  refine lv_icmp_ne (tgt := 36) hx hb dX11_standing_29 (by decide) (fun c_9 => absurd (by decide) c_9) (fun _ => ?_)
  refine lv_iconst (v := 0) hx hb dX11_standing_32 (by decide) ?_
  refine lv_goto (tgt := 37) hx hb dX11_standing_33 (by decide) ?_
  refine lv_iadd hx hb dX11_standing_37 ?_
  refine lv_topi (fun z_9 e_9 => ?_)
  obtain rfl : 0 = z_9 := (e_9.trans (by decide)).symm
  refine lv_istore_n (lv' := [(1, .int 0), (5, .int (-1)), (4, .int 2), (3, .int 7), (2, .ref mf), (0, .ref g0)]) hx hb dX11_standing_38 rfl hl (by decide) rfl (fun ls hl => ?_)
  refine lv_iinc (v := 3) (lv' := [(4, .int 3), (1, .int 0), (5, .int (-1)), (3, .int 7), (2, .ref mf), (0, .ref g0)]) hx hb dX11_standing_39 hl (k := 2) rfl (by decide) (by decide) rfl (fun ls hl => ?_)
  refine lv_goto (tgt := 13) hx hb dX11_standing_42 (by decide) ?_
  refine lv_iload hx hb dX11_standing_13 (lv_at hl 0 rfl) ?_
  refine lv_iload_n hx hb dX11_standing_15 rfl (lv_at hl 3 rfl) ?_
  refine lv_icmp_ge (tgt := 45) hx hb dX11_standing_16 (by decide) (fun c_9 => absurd c_9 (by decide)) (fun _ => ?_)
  refine lv_aload_n hx hb dX11_standing_19 rfl (lv_at hl 4 rfl) ?_
  refine lv_iload hx hb dX11_standing_20 (lv_at hl 0 rfl) ?_
  refine va_iald hx hb hK hP 1 0 rfl rfl (fz_il (by decide)) dX11_standing_22 ?_
  refine lv_topi (fun z_9 e_9 => ?_)
  obtain rfl : (-1) = z_9 := (e_9.trans (hff _ (by decide))).symm
  refine lv_istore (lv' := [(5, .int (-1)), (4, .int 3), (1, .int 0), (3, .int 7), (2, .ref mf), (0, .ref g0)]) hx hb dX11_standing_23 hl (by decide) rfl (fun ls hl => ?_)
  refine lv_iload_n hx hb dX11_standing_25 rfl (lv_at hl 2 rfl) ?_
  refine lv_iload hx hb dX11_standing_26 (lv_at hl 0 rfl) ?_
  refine lv_iconst (v := (-1)) hx hb dX11_standing_28 (by decide) ?_
  refine lv_icmp_ne (tgt := 36) hx hb dX11_standing_29 (by decide) (fun c_9 => absurd (by decide) c_9) (fun _ => ?_)
  refine lv_iconst (v := 0) hx hb dX11_standing_32 (by decide) ?_
  refine lv_goto (tgt := 37) hx hb dX11_standing_33 (by decide) ?_
  refine lv_iadd hx hb dX11_standing_37 ?_
  refine lv_topi (fun z_9 e_9 => ?_)
  obtain rfl : 0 = z_9 := (e_9.trans (by decide)).symm
  refine lv_istore_n (lv' := [(1, .int 0), (5, .int (-1)), (4, .int 3), (3, .int 7), (2, .ref mf), (0, .ref g0)]) hx hb dX11_standing_38 rfl hl (by decide) rfl (fun ls hl => ?_)
  refine lv_iinc (v := 4) (lv' := [(4, .int 4), (1, .int 0), (5, .int (-1)), (3, .int 7), (2, .ref mf), (0, .ref g0)]) hx hb dX11_standing_39 hl (k := 2) rfl (by decide) (by decide) rfl (fun ls hl => ?_)
  refine lv_goto (tgt := 13) hx hb dX11_standing_42 (by decide) ?_
  refine lv_iload hx hb dX11_standing_13 (lv_at hl 0 rfl) ?_
  refine lv_iload_n hx hb dX11_standing_15 rfl (lv_at hl 3 rfl) ?_
  refine lv_icmp_ge (tgt := 45) hx hb dX11_standing_16 (by decide) (fun c_9 => absurd c_9 (by decide)) (fun _ => ?_)
  refine lv_aload_n hx hb dX11_standing_19 rfl (lv_at hl 4 rfl) ?_
  refine lv_iload hx hb dX11_standing_20 (lv_at hl 0 rfl) ?_
  refine va_iald hx hb hK hP 1 0 rfl rfl (fz_il (by decide)) dX11_standing_22 ?_
  refine lv_topi (fun z_9 e_9 => ?_)
  obtain rfl : (-1) = z_9 := (e_9.trans (hff _ (by decide))).symm
  refine lv_istore (lv' := [(5, .int (-1)), (4, .int 4), (1, .int 0), (3, .int 7), (2, .ref mf), (0, .ref g0)]) hx hb dX11_standing_23 hl (by decide) rfl (fun ls hl => ?_)
  refine lv_iload_n hx hb dX11_standing_25 rfl (lv_at hl 2 rfl) ?_
  refine lv_iload hx hb dX11_standing_26 (lv_at hl 0 rfl) ?_
  refine lv_iconst (v := (-1)) hx hb dX11_standing_28 (by decide) ?_
  refine lv_icmp_ne (tgt := 36) hx hb dX11_standing_29 (by decide) (fun c_9 => absurd (by decide) c_9) (fun _ => ?_)
  refine lv_iconst (v := 0) hx hb dX11_standing_32 (by decide) ?_
  refine lv_goto (tgt := 37) hx hb dX11_standing_33 (by decide) ?_
  refine lv_iadd hx hb dX11_standing_37 ?_
  refine lv_topi (fun z_9 e_9 => ?_)
  obtain rfl : 0 = z_9 := (e_9.trans (by decide)).symm
  refine lv_istore_n (lv' := [(1, .int 0), (5, .int (-1)), (4, .int 4), (3, .int 7), (2, .ref mf), (0, .ref g0)]) hx hb dX11_standing_38 rfl hl (by decide) rfl (fun ls hl => ?_)
  refine lv_iinc (v := 5) (lv' := [(4, .int 5), (1, .int 0), (5, .int (-1)), (3, .int 7), (2, .ref mf), (0, .ref g0)]) hx hb dX11_standing_39 hl (k := 2) rfl (by decide) (by decide) rfl (fun ls hl => ?_)
  refine lv_goto (tgt := 13) hx hb dX11_standing_42 (by decide) ?_
  refine lv_iload hx hb dX11_standing_13 (lv_at hl 0 rfl) ?_
  refine lv_iload_n hx hb dX11_standing_15 rfl (lv_at hl 3 rfl) ?_
  refine lv_icmp_ge (tgt := 45) hx hb dX11_standing_16 (by decide) (fun c_9 => absurd c_9 (by decide)) (fun _ => ?_)
  refine lv_aload_n hx hb dX11_standing_19 rfl (lv_at hl 4 rfl) ?_
  refine lv_iload hx hb dX11_standing_20 (lv_at hl 0 rfl) ?_
  refine va_iald hx hb hK hP 1 0 rfl rfl (fz_il (by decide)) dX11_standing_22 ?_
  refine lv_topi (fun z_9 e_9 => ?_)
  obtain rfl : (-1) = z_9 := (e_9.trans (hff _ (by decide))).symm
  refine lv_istore (lv' := [(5, .int (-1)), (4, .int 5), (1, .int 0), (3, .int 7), (2, .ref mf), (0, .ref g0)]) hx hb dX11_standing_23 hl (by decide) rfl (fun ls hl => ?_)
  refine lv_iload_n hx hb dX11_standing_25 rfl (lv_at hl 2 rfl) ?_
  refine lv_iload hx hb dX11_standing_26 (lv_at hl 0 rfl) ?_
  refine lv_iconst (v := (-1)) hx hb dX11_standing_28 (by decide) ?_
  refine lv_icmp_ne (tgt := 36) hx hb dX11_standing_29 (by decide) (fun c_9 => absurd (by decide) c_9) (fun _ => ?_)
  refine lv_iconst (v := 0) hx hb dX11_standing_32 (by decide) ?_
  refine lv_goto (tgt := 37) hx hb dX11_standing_33 (by decide) ?_
  refine lv_iadd hx hb dX11_standing_37 ?_
  refine lv_topi (fun z_9 e_9 => ?_)
  obtain rfl : 0 = z_9 := (e_9.trans (by decide)).symm
  refine lv_istore_n (lv' := [(1, .int 0), (5, .int (-1)), (4, .int 5), (3, .int 7), (2, .ref mf), (0, .ref g0)]) hx hb dX11_standing_38 rfl hl (by decide) rfl (fun ls hl => ?_)
  refine lv_iinc (v := 6) (lv' := [(4, .int 6), (1, .int 0), (5, .int (-1)), (3, .int 7), (2, .ref mf), (0, .ref g0)]) hx hb dX11_standing_39 hl (k := 2) rfl (by decide) (by decide) rfl (fun ls hl => ?_)
  refine lv_goto (tgt := 13) hx hb dX11_standing_42 (by decide) ?_
  refine lv_iload hx hb dX11_standing_13 (lv_at hl 0 rfl) ?_
  refine lv_iload_n hx hb dX11_standing_15 rfl (lv_at hl 3 rfl) ?_
  refine lv_icmp_ge (tgt := 45) hx hb dX11_standing_16 (by decide) (fun c_9 => absurd c_9 (by decide)) (fun _ => ?_)
  refine lv_aload_n hx hb dX11_standing_19 rfl (lv_at hl 4 rfl) ?_
  refine lv_iload hx hb dX11_standing_20 (lv_at hl 0 rfl) ?_
  refine va_iald hx hb hK hP 1 0 rfl rfl (fz_il (by decide)) dX11_standing_22 ?_
  refine lv_topi (fun z_9 e_9 => ?_)
  obtain rfl : (-1) = z_9 := (e_9.trans (hff _ (by decide))).symm
  refine lv_istore (lv' := [(5, .int (-1)), (4, .int 6), (1, .int 0), (3, .int 7), (2, .ref mf), (0, .ref g0)]) hx hb dX11_standing_23 hl (by decide) rfl (fun ls hl => ?_)
  refine lv_iload_n hx hb dX11_standing_25 rfl (lv_at hl 2 rfl) ?_
  refine lv_iload hx hb dX11_standing_26 (lv_at hl 0 rfl) ?_
  refine lv_iconst (v := (-1)) hx hb dX11_standing_28 (by decide) ?_
  refine lv_icmp_ne (tgt := 36) hx hb dX11_standing_29 (by decide) (fun c_9 => absurd (by decide) c_9) (fun _ => ?_)
  refine lv_iconst (v := 0) hx hb dX11_standing_32 (by decide) ?_
  refine lv_goto (tgt := 37) hx hb dX11_standing_33 (by decide) ?_
  refine lv_iadd hx hb dX11_standing_37 ?_
  refine lv_topi (fun z_9 e_9 => ?_)
  obtain rfl : 0 = z_9 := (e_9.trans (by decide)).symm
  refine lv_istore_n (lv' := [(1, .int 0), (5, .int (-1)), (4, .int 6), (3, .int 7), (2, .ref mf), (0, .ref g0)]) hx hb dX11_standing_38 rfl hl (by decide) rfl (fun ls hl => ?_)
  refine lv_iinc (v := 7) (lv' := [(4, .int 7), (1, .int 0), (5, .int (-1)), (3, .int 7), (2, .ref mf), (0, .ref g0)]) hx hb dX11_standing_39 hl (k := 2) rfl (by decide) (by decide) rfl (fun ls hl => ?_)
  refine lv_goto (tgt := 13) hx hb dX11_standing_42 (by decide) ?_
  refine lv_iload hx hb dX11_standing_13 (lv_at hl 0 rfl) ?_
  refine lv_iload_n hx hb dX11_standing_15 rfl (lv_at hl 3 rfl) ?_
  refine lv_icmp_ge (tgt := 45) hx hb dX11_standing_16 (by decide) (fun _ => ?_) (fun c_9 => absurd (by decide) c_9)
  refine lv_iload_n hx hb dX11_standing_45 rfl (lv_at hl 1 rfl) ?_
  refine W.widen (k := 0) (n := 0) (Nat.le_of_ble_eq_true rfl) (Nat.le_of_ble_eq_true rfl) ?_
  exact W.iret (v := 0) hx hb hr (fun t ht hW => ⟨⟨0, (), rfl, rfl, trivial⟩, hS.F ht⟩) hS.2.2 dX11_standing_46
