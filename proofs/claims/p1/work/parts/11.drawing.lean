def v_c_X1_init : List Cond := .code yX1_init cX1_init 2 none :: ([.methodLink RX1 3 objectInit, .instanceMethod objectInit, .code objectInit ⟨#[0xb1]⟩ 1 none, .classLink RX1 9 RX2, .fieldLink RX1 11 "VoussoirYard$Drawing" "joints" "[LVoussoirYard$Joint;", .instantiable RX2 4, .initialized RX2, .instanceMethod yX2_init, .fieldLink RX1 18 "VoussoirYard$Drawing" "proposed" "LVoussoirYard$Joint;", .classLink RX1 22 RX4, .instantiable RX4 2, .initialized RX4, .instanceMethod yX4_init, .fieldLink RX1 25 "VoussoirYard$Drawing" "quad" "LVoussoirYard$Quad;", .fieldLink RX1 29 "VoussoirYard$Drawing" "count" "I", .fieldLink RX1 33 "VoussoirYard$Drawing" "version" "I", .fieldLink RX1 36 "VoussoirYard$Drawing" "density" "I"] ++ (wsX10 ++ (wsX20 ++ (v_c_X2_init ++ (wsX40 ++ (v_c_X4_init))))))
set_option maxRecDepth 20000 in
theorem i_c_X1_init : ∀ w ∈ v_c_X1_init, w ∈ lw_tbl := List.forall_mem_cons.mpr ⟨List.mem_of_getElem? (i := 100) (by decide +kernel), List.forall_mem_append.mpr ⟨List.forall_mem_cons.mpr ⟨List.mem_of_getElem? (i := 101) (by decide +kernel), List.forall_mem_cons.mpr ⟨List.mem_of_getElem? (i := 94) (by decide +kernel), List.forall_mem_cons.mpr ⟨List.mem_of_getElem? (i := 95) (by decide +kernel), List.forall_mem_cons.mpr ⟨List.mem_of_getElem? (i := 102) (by decide +kernel), List.forall_mem_cons.mpr ⟨List.mem_of_getElem? (i := 148) (by decide +kernel), List.forall_mem_cons.mpr ⟨List.mem_of_getElem? (i := 104) (by decide +kernel), List.forall_mem_cons.mpr ⟨List.mem_of_getElem? (i := 51) (by decide +kernel), List.forall_mem_cons.mpr ⟨List.mem_of_getElem? (i := 106) (by decide +kernel), List.forall_mem_cons.mpr ⟨List.mem_of_getElem? (i := 149) (by decide +kernel), List.forall_mem_cons.mpr ⟨List.mem_of_getElem? (i := 134) (by decide +kernel), List.forall_mem_cons.mpr ⟨List.mem_of_getElem? (i := 135) (by decide +kernel), List.forall_mem_cons.mpr ⟨List.mem_of_getElem? (i := 52) (by decide +kernel), List.forall_mem_cons.mpr ⟨List.mem_of_getElem? (i := 137) (by decide +kernel), List.forall_mem_cons.mpr ⟨List.mem_of_getElem? (i := 150) (by decide +kernel), List.forall_mem_cons.mpr ⟨List.mem_of_getElem? (i := 151) (by decide +kernel), List.forall_mem_cons.mpr ⟨List.mem_of_getElem? (i := 154) (by decide +kernel), List.forall_mem_cons.mpr ⟨List.mem_of_getElem? (i := 156) (by decide +kernel), fun _ h => absurd h List.not_mem_nil⟩⟩⟩⟩⟩⟩⟩⟩⟩⟩⟩⟩⟩⟩⟩⟩⟩, List.forall_mem_append.mpr ⟨inX1, List.forall_mem_append.mpr ⟨inX2, List.forall_mem_append.mpr ⟨i_c_X2_init, List.forall_mem_append.mpr ⟨inX4, i_c_X4_init⟩⟩⟩⟩⟩⟩
set_option maxHeartbeats 4000000 in
set_option maxRecDepth 100000 in
theorem c_X1_init (l : Launch) (dC : Nat → ClassId) (dI : Nat → Nat → Nat) (e0 : Nat) (h0 : Nat) (sz : Nat) : Met l yX1_init v_c_X1_init ({ frames := 2, cells := 13, slots := 54, locals := 50 }) (fz_P (dC, dI) e0 [(h0, .inr (6, [.null, .null, .null, .int 0, .int 0, .int 0]))] [] sz (va_A [(h0, .inr (6, [.null, .null, .null, .int 0, .int 0, .int 0]))] sz) [.ref h0]) (va_Qv (fun (u : Unit) => True) (fun (u : Unit) (t : State) => ∃ hj : Nat, ∃ hpr : Nat, ∃ hqd : Nat, ∃ cR : ClassId, ∃ fj : Nat → Option Nat, ∃ hj0 : Nat, (fj 0 = some hj0) ∧ va_P (dC, dI) vwCl [(h0, .inr (6, [.ref hj, .ref hpr, .ref hqd, .int 0, .int 0, .int 1])), (hj, .inl (cR, 8, .inr (.inr (.inr (.inr fj))))), (hj0, .inr (7, [.int 0, .int 0, .int 0, .int 0])), (hpr, .inr (7, [.int 0, .int 0, .int 0, .int 0]))] t.heap ∧ va_K (dC, dI) vwCl [(cR, .object RX2)] t ∧ va_D (va_A [(h0, .inr (6, [.null, .null, .null, .int 0, .int 0, .int 0]))] sz) [(h0, .inr (6, [.ref hj, .ref hpr, .ref hqd, .int 0, .int 0, .int 1])), (hj, .inl (cR, 8, .inr (.inr (.inr (.inr fj))))), (hj0, .inr (7, [.int 0, .int 0, .int 0, .int 0])), (hpr, .inr (7, [.int 0, .int 0, .int 0, .int 0]))]) (va_A [(h0, .inr (6, [.null, .null, .null, .int 0, .int 0, .int 0]))] sz)) 13 54 (va_A [(h0, .inr (6, [.null, .null, .null, .int 0, .int 0, .int 0]))] sz) := by
  refine Met.ofW (cc := cX1_init) (maxL := 2) (ret := none) (by decide) rfl ?_
  intro p e s m args below meth c s₁ B hml hv
  obtain ⟨rfl, hsz, hP, hK, hD0, hAm⟩ := hv
  have hx := B.exec
  have hb := B.bytes
  have hr := B.returns
  have hts := atoms_spec (ws := v_c_X1_init) B.pre
  have hown : s.vm.findClass RX1 = some m.cls := findClass_of_methodNamed B.named
  have hlocks := B.notSynchronized
  have hin : meth.name = "<init>" := (name_of_methodNamed B.named B.method).1
  subst hsz
  have hD := hD0.self (sz := s.heap.size)
  generalize hAe : va_A [(h0, .inr (6, [.null, .null, .null, .int 0, .int 0, .int 0]))] s.heap.size = A at hD hAm ⊢
  have hA : ∀ q : Nat, s.heap.size ≤ q → A q := fun q h => by rw [← hAe]; exact Or.inr h
  have hS : va_S A s.heap s.heap [] := va_S.rf
  have hP : va_P (dC, dI) vwCl [(h0, .inr (6, [.null, .null, .null, .int 0, .int 0, .int 0]))] s.heap := hP
  have hl := lv_entry ([.ref h0]) (n := 2) (Nat.le_of_ble_eq_true rfl)
  rw [lg_entry_eq]
  generalize (lg_sl ([.ref h0]) ++ List.replicate (2 - (lg_sl ([.ref h0])).length) Slot.unset).toArray = ls at hl ⊢
  have hl : lv_has ls 2 [(0, .ref h0)] := hl
  refine lv_aload_n hx hb dX1_init_0 rfl (lv_at hl 0 rfl) ?_
  refine W.objInit hx hb hown (hts _ (List.mem_cons_of_mem _ (List.mem_append_left _ (List.mem_of_getElem? (i := 0) rfl)))) (hts _ (List.mem_cons_of_mem _ (List.mem_append_left _ (List.mem_of_getElem? (i := 1) rfl)))) (hts _ (List.mem_cons_of_mem _ (List.mem_append_left _ (List.mem_of_getElem? (i := 2) rfl)))) rfl (by rw [hml]; exact hl.1) rfl dX1_init_1 (Nat.le_of_ble_eq_true rfl) (Nat.le_of_ble_eq_true rfl) ?_
  refine W.eq (g2 := F0 m 4 ls []) rfl ?_
  refine lv_aload_n hx hb dX1_init_4 rfl (lv_at hl 0 rfl) ?_
  refine lv_bipush (v := 8) hx hb dX1_init_5 (by decide) ?_
  refine va_newq (C := RX2) (N' := 8) hx hb hown (hts _ (List.mem_cons_of_mem _ (List.mem_append_left _ (List.mem_of_getElem? (i := 3) rfl)))) hAm.1.2.2.2.2.1.1 hK hP hD hS hA (by decide) (by decide) (by decide) (Nat.le_of_ble_eq_true rfl) (Nat.le_of_ble_eq_true rfl) dX1_init_7 (fun q_1 cA_1 H hK hP hD hS => ?_)
  have hK : va_K (dC, dI) vwCl [(cA_1, .object RX2)] s := hK
  have hP : va_P (dC, dI) vwCl [(h0, .inr (6, [.null, .null, .null, .int 0, .int 0, .int 0])), (q_1, .inl (cA_1, 8, .inr (.inr (.inr (.inr (fun _ => none))))))] H := hP
  have hD : va_D A [(h0, .inr (6, [.null, .null, .null, .int 0, .int 0, .int 0])), (q_1, .inl (cA_1, 8, .inr (.inr (.inr (.inr (fun _ => none))))))] := hD
  refine W.widen (k := 1) (n := 8) (Nat.le_of_ble_eq_true rfl) (Nat.le_of_ble_eq_true rfl) ?_
  refine va_putF (D := (dC, dI)) (ci := 6) (v := .ref q_1) (ty := .array (.object "VoussoirYard$Joint")) (C := RX1) (T := TX1) (N := 6) hx hb hts (fun _ h9 => List.mem_cons_of_mem _ (List.mem_append_right _ (List.mem_append_left _ h9))) tyX1 tyX1_ok nmX1 hown hK hP hD hS 0 rfl rfl 0 (by decide) (hts _ (List.mem_cons_of_mem _ (List.mem_append_left _ (List.mem_of_getElem? (i := 4) rfl)))) (fun _ h9 => h9) rfl hin rfl (by decide +kernel) rfl rfl (Nat.le_of_ble_eq_true rfl) dX1_init_10 (fun H locs hP hD hS => ?_)
  have hP : va_P (dC, dI) vwCl [(h0, .inr (6, [.ref q_1, .null, .null, .int 0, .int 0, .int 0])), (q_1, .inl (cA_1, 8, .inr (.inr (.inr (.inr (fun _ => none))))))] H := hP
  have hD : va_D A [(h0, .inr (6, [.ref q_1, .null, .null, .int 0, .int 0, .int 0])), (q_1, .inl (cA_1, 8, .inr (.inr (.inr (.inr (fun _ => none))))))] := hD
  refine lv_aload_n hx hb dX1_init_13 rfl (lv_at hl 0 rfl) ?_
  refine va_new (ci := 7) (fs := [.int 0, .int 0, .int 0, .int 0]) (C := RX2) (T := TX2) (N := 4) hx hb hts (fun _ h9 => List.mem_cons_of_mem _ (List.mem_append_right _ (List.mem_append_right _ (List.mem_append_left _ h9)))) tyX2 tyX2_ok hown (hts _ (List.mem_cons_of_mem _ (List.mem_append_left _ (List.mem_of_getElem? (i := 3) rfl)))) (hts _ (List.mem_cons_of_mem _ (List.mem_append_left _ (List.mem_of_getElem? (i := 5) rfl)))) (hts _ (List.mem_cons_of_mem _ (List.mem_append_left _ (List.mem_of_getElem? (i := 6) rfl)))) hK hP hD hS hA rfl (fun j hj => by rcases (show j = 0 ∨ j = 1 ∨ j = 2 ∨ j = 3 by omega) with rfl | rfl | rfl | rfl <;> rfl) (Nat.le_of_ble_eq_true rfl) (Nat.le_of_ble_eq_true rfl) dX1_init_14 (fun q_2 H hP hD hS => ?_)
  have hP : va_P (dC, dI) vwCl [(h0, .inr (6, [.ref q_1, .null, .null, .int 0, .int 0, .int 0])), (q_1, .inl (cA_1, 8, .inr (.inr (.inr (.inr (fun _ => none)))))), (q_2, .inr (7, [.int 0, .int 0, .int 0, .int 0]))] H := hP
  have hD : va_D A [(h0, .inr (6, [.ref q_1, .null, .null, .int 0, .int 0, .int 0])), (q_1, .inl (cA_1, 8, .inr (.inr (.inr (.inr (fun _ => none)))))), (q_2, .inr (7, [.int 0, .int 0, .int 0, .int 0]))] := hD
  refine W.widen (k := 2) (n := 12) (Nat.le_of_ble_eq_true rfl) (Nat.le_of_ble_eq_true rfl) ?_
  refine lv_dup hx hb dX1_init_17 rfl ?_
  have hPc := hP.sub (ws' := [(q_2, .inr (7, [.int 0, .int 0, .int 0, .int 0]))]) [2] rfl
  have hDc := hD.sub (ws' := [(q_2, .inr (7, [.int 0, .int 0, .int 0, .int 0]))]) [2] (by decide) rfl
  have hKc := hK.sub (tys' := []) [] rfl
  have hFc := va_free (wc := [(q_2, .inr (7, [.int 0, .int 0, .int 0, .int 0]))]) hD hS hA [2] rfl
  refine va_callv (va_runIN (As := []) (rest := [.ref q_2, .ref h0]) ⟨hx, hb, hml, hown, hts⟩ (c_X2_init l dC dI e0 q_2 H.size) ⟨va_cnB 0 hts (goodIn_sub (fun _ h9 => List.mem_cons_of_mem _ (List.mem_append_right _ (List.mem_append_right _ (List.mem_append_right _ (List.mem_append_left _ h9))))) (by decide +kernel)) rfl rfl rfl hAm.1.1.2.1 (hts _ (List.mem_cons_of_mem _ (List.mem_append_left _ (List.mem_of_getElem? (i := 6) rfl)))) (by decide +kernel) ⟨(Nat.le_of_ble_eq_true rfl), (Nat.le_of_ble_eq_true rfl)⟩, rfl, (hts _ (List.mem_cons_of_mem _ (List.mem_append_left _ (List.mem_of_getElem? (i := 7) rfl))))⟩ ⟨fz_blind, fz_pre hPc hKc hDc hAm hS hFc⟩ rfl rfl hl.1 rfl (lv_room (Nat.le_of_ble_eq_true rfl)) dX1_init_18 ⟨(Nat.le_of_ble_eq_true rfl), (Nat.le_of_ble_eq_true rfl)⟩) hS (fun q _ h => hFc q h) hFc (fun u t H1 locs ht hvm hw hB hz1 hk1 hS => ?_)
  obtain ⟨hP1, hK1, hD1⟩ := hB
  rw [ht] at hP1
  have hK1 := va_K.moved hvm.symm hK1
  obtain ⟨hP, hD⟩ := va_join (wr := [(h0, .inr (6, [.ref q_1, .null, .null, .int 0, .int 0, .int 0])), (q_1, .inl (cA_1, 8, .inr (.inr (.inr (.inr (fun _ => none))))))]) (w1 := [(q_2, .inr (7, [.int 0, .int 0, .int 0, .int 0]))]) hP hD [2] [0, 1] rfl rfl (by decide) (by decide) hk1 hFc hP1 hD1
  generalize H1 = H at hP hS ⊢
  have hP : va_P (dC, dI) vwCl [(h0, .inr (6, [.ref q_1, .null, .null, .int 0, .int 0, .int 0])), (q_1, .inl (cA_1, 8, .inr (.inr (.inr (.inr (fun _ => none)))))), (q_2, .inr (7, [.int 0, .int 0, .int 0, .int 0]))] H := hP
  have hD : va_D A [(h0, .inr (6, [.ref q_1, .null, .null, .int 0, .int 0, .int 0])), (q_1, .inl (cA_1, 8, .inr (.inr (.inr (.inr (fun _ => none)))))), (q_2, .inr (7, [.int 0, .int 0, .int 0, .int 0]))] := hD
  have hK : va_K (dC, dI) vwCl [(cA_1, .object RX2)] s := hK
  refine W.widen (k := 2) (n := 12) (Nat.le_of_ble_eq_true rfl) (Nat.le_of_ble_eq_true rfl) ?_
  refine va_putF (D := (dC, dI)) (ci := 6) (v := .ref q_2) (ty := .object "VoussoirYard$Joint") (C := RX1) (T := TX1) (N := 6) hx hb hts (fun _ h9 => List.mem_cons_of_mem _ (List.mem_append_right _ (List.mem_append_left _ h9))) tyX1 tyX1_ok nmX1 hown hK hP hD hS 0 rfl rfl 1 (by decide) (hts _ (List.mem_cons_of_mem _ (List.mem_append_left _ (List.mem_of_getElem? (i := 8) rfl)))) (fun _ h9 => h9) rfl hin rfl (by decide +kernel) rfl rfl (Nat.le_of_ble_eq_true rfl) dX1_init_21 (fun H locs hP hD hS => ?_)
  have hP : va_P (dC, dI) vwCl [(h0, .inr (6, [.ref q_1, .ref q_2, .null, .int 0, .int 0, .int 0])), (q_1, .inl (cA_1, 8, .inr (.inr (.inr (.inr (fun _ => none)))))), (q_2, .inr (7, [.int 0, .int 0, .int 0, .int 0]))] H := hP
  have hD : va_D A [(h0, .inr (6, [.ref q_1, .ref q_2, .null, .int 0, .int 0, .int 0])), (q_1, .inl (cA_1, 8, .inr (.inr (.inr (.inr (fun _ => none)))))), (q_2, .inr (7, [.int 0, .int 0, .int 0, .int 0]))] := hD
  refine lv_aload_n hx hb dX1_init_24 rfl (lv_at hl 0 rfl) ?_
  refine va_new (ci := 9) (fs := [.null, .null]) (C := RX4) (T := TX4) (N := 2) hx hb hts (fun _ h9 => List.mem_cons_of_mem _ (List.mem_append_right _ (List.mem_append_right _ (List.mem_append_right _ (List.mem_append_right _ (List.mem_append_left _ h9)))))) tyX4 tyX4_ok hown (hts _ (List.mem_cons_of_mem _ (List.mem_append_left _ (List.mem_of_getElem? (i := 9) rfl)))) (hts _ (List.mem_cons_of_mem _ (List.mem_append_left _ (List.mem_of_getElem? (i := 10) rfl)))) (hts _ (List.mem_cons_of_mem _ (List.mem_append_left _ (List.mem_of_getElem? (i := 11) rfl)))) hK hP hD hS hA rfl (fun j hj => by rcases (show j = 0 ∨ j = 1 by omega) with rfl | rfl <;> rfl) (Nat.le_of_ble_eq_true rfl) (Nat.le_of_ble_eq_true rfl) dX1_init_25 (fun q_3 H hP hD hS => ?_)
  have hP : va_P (dC, dI) vwCl [(h0, .inr (6, [.ref q_1, .ref q_2, .null, .int 0, .int 0, .int 0])), (q_1, .inl (cA_1, 8, .inr (.inr (.inr (.inr (fun _ => none)))))), (q_2, .inr (7, [.int 0, .int 0, .int 0, .int 0])), (q_3, .inr (9, [.null, .null]))] H := hP
  have hD : va_D A [(h0, .inr (6, [.ref q_1, .ref q_2, .null, .int 0, .int 0, .int 0])), (q_1, .inl (cA_1, 8, .inr (.inr (.inr (.inr (fun _ => none)))))), (q_2, .inr (7, [.int 0, .int 0, .int 0, .int 0])), (q_3, .inr (9, [.null, .null]))] := hD
  refine W.widen (k := 3) (n := 14) (Nat.le_of_ble_eq_true rfl) (Nat.le_of_ble_eq_true rfl) ?_
  refine lv_dup hx hb dX1_init_28 rfl ?_
  have hPc := hP.sub (ws' := [(q_3, .inr (9, [.null, .null]))]) [3] rfl
  have hDc := hD.sub (ws' := [(q_3, .inr (9, [.null, .null]))]) [3] (by decide) rfl
  have hKc := hK.sub (tys' := []) [] rfl
  have hFc := va_free (wc := [(q_3, .inr (9, [.null, .null]))]) hD hS hA [3] rfl
  refine va_callv (va_runIN (As := []) (rest := [.ref q_3, .ref h0]) ⟨hx, hb, hml, hown, hts⟩ (c_X4_init l dC dI e0 q_3 H.size) ⟨va_cnB 0 hts (goodIn_sub (fun _ h9 => List.mem_cons_of_mem _ (List.mem_append_right _ (List.mem_append_right _ (List.mem_append_right _ (List.mem_append_right _ (List.mem_append_right _ h9)))))) (by decide +kernel)) rfl rfl rfl hAm.1.1.2.2 (hts _ (List.mem_cons_of_mem _ (List.mem_append_left _ (List.mem_of_getElem? (i := 11) rfl)))) (by decide +kernel) ⟨(Nat.le_of_ble_eq_true rfl), (Nat.le_of_ble_eq_true rfl)⟩, rfl, (hts _ (List.mem_cons_of_mem _ (List.mem_append_left _ (List.mem_of_getElem? (i := 12) rfl))))⟩ ⟨fz_blind, fz_pre hPc hKc hDc hAm hS hFc⟩ rfl rfl hl.1 rfl (lv_room (Nat.le_of_ble_eq_true rfl)) dX1_init_29 ⟨(Nat.le_of_ble_eq_true rfl), (Nat.le_of_ble_eq_true rfl)⟩) hS (fun q _ h => hFc q h) hFc (fun u t H1 locs ht hvm hw hB hz1 hk1 hS => ?_)
  obtain ⟨hx_4, hy_5, hP1, hK1, hD1⟩ := hB
  rw [ht] at hP1
  have hK1 := va_K.moved hvm.symm hK1
  obtain ⟨hP, hD⟩ := va_join (wr := [(h0, .inr (6, [.ref q_1, .ref q_2, .null, .int 0, .int 0, .int 0])), (q_1, .inl (cA_1, 8, .inr (.inr (.inr (.inr (fun _ => none)))))), (q_2, .inr (7, [.int 0, .int 0, .int 0, .int 0]))]) (w1 := [(q_3, .inr (9, [.ref hx_4, .ref hy_5]))]) hP hD [3] [0, 1, 2] rfl rfl (by decide) (by decide) hk1 hFc hP1 hD1
  generalize H1 = H at hP hS ⊢
  have hP : va_P (dC, dI) vwCl [(h0, .inr (6, [.ref q_1, .ref q_2, .null, .int 0, .int 0, .int 0])), (q_1, .inl (cA_1, 8, .inr (.inr (.inr (.inr (fun _ => none)))))), (q_2, .inr (7, [.int 0, .int 0, .int 0, .int 0])), (q_3, .inr (9, [.ref hx_4, .ref hy_5]))] H := hP
  have hD : va_D A [(h0, .inr (6, [.ref q_1, .ref q_2, .null, .int 0, .int 0, .int 0])), (q_1, .inl (cA_1, 8, .inr (.inr (.inr (.inr (fun _ => none)))))), (q_2, .inr (7, [.int 0, .int 0, .int 0, .int 0])), (q_3, .inr (9, [.ref hx_4, .ref hy_5]))] := hD
  have hK : va_K (dC, dI) vwCl [(cA_1, .object RX2)] s := hK
  refine W.widen (k := 5) (n := 22) (Nat.le_of_ble_eq_true rfl) (Nat.le_of_ble_eq_true rfl) ?_
  refine va_putF (D := (dC, dI)) (ci := 6) (v := .ref q_3) (ty := .object "VoussoirYard$Quad") (C := RX1) (T := TX1) (N := 6) hx hb hts (fun _ h9 => List.mem_cons_of_mem _ (List.mem_append_right _ (List.mem_append_left _ h9))) tyX1 tyX1_ok nmX1 hown hK hP hD hS 0 rfl rfl 2 (by decide) (hts _ (List.mem_cons_of_mem _ (List.mem_append_left _ (List.mem_of_getElem? (i := 13) rfl)))) (fun _ h9 => h9) rfl hin rfl (by decide +kernel) rfl rfl (Nat.le_of_ble_eq_true rfl) dX1_init_32 (fun H locs hP hD hS => ?_)
  have hP : va_P (dC, dI) vwCl [(h0, .inr (6, [.ref q_1, .ref q_2, .ref q_3, .int 0, .int 0, .int 0])), (q_1, .inl (cA_1, 8, .inr (.inr (.inr (.inr (fun _ => none)))))), (q_2, .inr (7, [.int 0, .int 0, .int 0, .int 0])), (q_3, .inr (9, [.ref hx_4, .ref hy_5]))] H := hP
  have hD : va_D A [(h0, .inr (6, [.ref q_1, .ref q_2, .ref q_3, .int 0, .int 0, .int 0])), (q_1, .inl (cA_1, 8, .inr (.inr (.inr (.inr (fun _ => none)))))), (q_2, .inr (7, [.int 0, .int 0, .int 0, .int 0])), (q_3, .inr (9, [.ref hx_4, .ref hy_5]))] := hD
  refine lv_aload_n hx hb dX1_init_35 rfl (lv_at hl 0 rfl) ?_
  refine lv_iconst (v := 0) hx hb dX1_init_36 (by decide) ?_
  refine va_put (D := (dC, dI)) (ci := 6) (v := .int 0) (ty := .int) (C := RX1) (T := TX1) (N := 6) hx hb hts (fun _ h9 => List.mem_cons_of_mem _ (List.mem_append_right _ (List.mem_append_left _ h9))) tyX1 tyX1_ok nmX1 hown hK hP hD hS 0 rfl rfl 3 (by decide) (hts _ (List.mem_cons_of_mem _ (List.mem_append_left _ (List.mem_of_getElem? (i := 14) rfl)))) (fun _ h9 => h9) rfl (by decide +kernel) rfl rfl (Nat.le_of_ble_eq_true rfl) dX1_init_37 (fun H locs hP hD hS => ?_)
  have hP : va_P (dC, dI) vwCl [(h0, .inr (6, [.ref q_1, .ref q_2, .ref q_3, .int 0, .int 0, .int 0])), (q_1, .inl (cA_1, 8, .inr (.inr (.inr (.inr (fun _ => none)))))), (q_2, .inr (7, [.int 0, .int 0, .int 0, .int 0])), (q_3, .inr (9, [.ref hx_4, .ref hy_5]))] H := hP
  have hD : va_D A [(h0, .inr (6, [.ref q_1, .ref q_2, .ref q_3, .int 0, .int 0, .int 0])), (q_1, .inl (cA_1, 8, .inr (.inr (.inr (.inr (fun _ => none)))))), (q_2, .inr (7, [.int 0, .int 0, .int 0, .int 0])), (q_3, .inr (9, [.ref hx_4, .ref hy_5]))] := hD
  refine lv_aload_n hx hb dX1_init_40 rfl (lv_at hl 0 rfl) ?_
  refine lv_iconst (v := 0) hx hb dX1_init_41 (by decide) ?_
  refine va_put (D := (dC, dI)) (ci := 6) (v := .int 0) (ty := .int) (C := RX1) (T := TX1) (N := 6) hx hb hts (fun _ h9 => List.mem_cons_of_mem _ (List.mem_append_right _ (List.mem_append_left _ h9))) tyX1 tyX1_ok nmX1 hown hK hP hD hS 0 rfl rfl 4 (by decide) (hts _ (List.mem_cons_of_mem _ (List.mem_append_left _ (List.mem_of_getElem? (i := 15) rfl)))) (fun _ h9 => h9) rfl (by decide +kernel) rfl rfl (Nat.le_of_ble_eq_true rfl) dX1_init_42 (fun H locs hP hD hS => ?_)
  have hP : va_P (dC, dI) vwCl [(h0, .inr (6, [.ref q_1, .ref q_2, .ref q_3, .int 0, .int 0, .int 0])), (q_1, .inl (cA_1, 8, .inr (.inr (.inr (.inr (fun _ => none)))))), (q_2, .inr (7, [.int 0, .int 0, .int 0, .int 0])), (q_3, .inr (9, [.ref hx_4, .ref hy_5]))] H := hP
  have hD : va_D A [(h0, .inr (6, [.ref q_1, .ref q_2, .ref q_3, .int 0, .int 0, .int 0])), (q_1, .inl (cA_1, 8, .inr (.inr (.inr (.inr (fun _ => none)))))), (q_2, .inr (7, [.int 0, .int 0, .int 0, .int 0])), (q_3, .inr (9, [.ref hx_4, .ref hy_5]))] := hD
  refine lv_aload_n hx hb dX1_init_45 rfl (lv_at hl 0 rfl) ?_
  refine lv_iconst (v := 1) hx hb dX1_init_46 (by decide) ?_
  refine va_put (D := (dC, dI)) (ci := 6) (v := .int 1) (ty := .int) (C := RX1) (T := TX1) (N := 6) hx hb hts (fun _ h9 => List.mem_cons_of_mem _ (List.mem_append_right _ (List.mem_append_left _ h9))) tyX1 tyX1_ok nmX1 hown hK hP hD hS 0 rfl rfl 5 (by decide) (hts _ (List.mem_cons_of_mem _ (List.mem_append_left _ (List.mem_of_getElem? (i := 16) rfl)))) (fun _ h9 => h9) rfl (by decide +kernel) rfl rfl (Nat.le_of_ble_eq_true rfl) dX1_init_47 (fun H locs hP hD hS => ?_)
  have hP : va_P (dC, dI) vwCl [(h0, .inr (6, [.ref q_1, .ref q_2, .ref q_3, .int 0, .int 0, .int 1])), (q_1, .inl (cA_1, 8, .inr (.inr (.inr (.inr (fun _ => none)))))), (q_2, .inr (7, [.int 0, .int 0, .int 0, .int 0])), (q_3, .inr (9, [.ref hx_4, .ref hy_5]))] H := hP
  have hD : va_D A [(h0, .inr (6, [.ref q_1, .ref q_2, .ref q_3, .int 0, .int 0, .int 1])), (q_1, .inl (cA_1, 8, .inr (.inr (.inr (.inr (fun _ => none)))))), (q_2, .inr (7, [.int 0, .int 0, .int 0, .int 0])), (q_3, .inr (9, [.ref hx_4, .ref hy_5]))] := hD
  refine lv_iconst (v := 0) hx hb dX1_init_50 (by decide) ?_
  refine lv_istore_n (lv' := [(1, .int 0), (0, .ref h0)]) hx hb dX1_init_51 rfl hl (by decide) rfl (fun ls hl => ?_)
  refine lv_iload_n hx hb dX1_init_52 rfl (lv_at hl 0 rfl) ?_
  refine lv_bipush (v := 8) hx hb dX1_init_53 (by decide) ?_
  refine lv_icmp_ge (tgt := 77) hx hb dX1_init_55 (by decide) (fun c_9 => absurd c_9 (by decide)) (fun _ => ?_)
  refine lv_aload_n hx hb dX1_init_58 rfl (lv_at hl 1 rfl) ?_
  refine va_get (D := (dC, dI)) (ci := 6) (v := .ref q_1) (C := RX1) (T := TX1) (N := 6) hx hb hts (fun _ h9 => List.mem_cons_of_mem _ (List.mem_append_right _ (List.mem_append_left _ h9))) hown hK hP 0 rfl rfl 0 (by decide) (hts _ (List.mem_cons_of_mem _ (List.mem_append_left _ (List.mem_of_getElem? (i := 4) rfl)))) (fun _ h9 => h9) rfl dX1_init_59 ?_
  refine lv_iload_n hx hb dX1_init_62 rfl (lv_at hl 0 rfl) ?_
  refine va_new (ci := 7) (fs := [.int 0, .int 0, .int 0, .int 0]) (C := RX2) (T := TX2) (N := 4) hx hb hts (fun _ h9 => List.mem_cons_of_mem _ (List.mem_append_right _ (List.mem_append_right _ (List.mem_append_left _ h9)))) tyX2 tyX2_ok hown (hts _ (List.mem_cons_of_mem _ (List.mem_append_left _ (List.mem_of_getElem? (i := 3) rfl)))) (hts _ (List.mem_cons_of_mem _ (List.mem_append_left _ (List.mem_of_getElem? (i := 5) rfl)))) (hts _ (List.mem_cons_of_mem _ (List.mem_append_left _ (List.mem_of_getElem? (i := 6) rfl)))) hK hP hD hS hA rfl (fun j hj => by rcases (show j = 0 ∨ j = 1 ∨ j = 2 ∨ j = 3 by omega) with rfl | rfl | rfl | rfl <;> rfl) (Nat.le_of_ble_eq_true rfl) (Nat.le_of_ble_eq_true rfl) dX1_init_63 (fun q_6 H hP hD hS => ?_)
  have hP : va_P (dC, dI) vwCl [(h0, .inr (6, [.ref q_1, .ref q_2, .ref q_3, .int 0, .int 0, .int 1])), (q_1, .inl (cA_1, 8, .inr (.inr (.inr (.inr (fun _ => none)))))), (q_2, .inr (7, [.int 0, .int 0, .int 0, .int 0])), (q_3, .inr (9, [.ref hx_4, .ref hy_5])), (q_6, .inr (7, [.int 0, .int 0, .int 0, .int 0]))] H := hP
  have hD : va_D A [(h0, .inr (6, [.ref q_1, .ref q_2, .ref q_3, .int 0, .int 0, .int 1])), (q_1, .inl (cA_1, 8, .inr (.inr (.inr (.inr (fun _ => none)))))), (q_2, .inr (7, [.int 0, .int 0, .int 0, .int 0])), (q_3, .inr (9, [.ref hx_4, .ref hy_5])), (q_6, .inr (7, [.int 0, .int 0, .int 0, .int 0]))] := hD
  refine W.widen (k := 6) (n := 26) (Nat.le_of_ble_eq_true rfl) (Nat.le_of_ble_eq_true rfl) ?_
  refine lv_dup hx hb dX1_init_66 rfl ?_
  have hPc := hP.sub (ws' := [(q_6, .inr (7, [.int 0, .int 0, .int 0, .int 0]))]) [4] rfl
  have hDc := hD.sub (ws' := [(q_6, .inr (7, [.int 0, .int 0, .int 0, .int 0]))]) [4] (by decide) rfl
  have hKc := hK.sub (tys' := []) [] rfl
  have hFc := va_free (wc := [(q_6, .inr (7, [.int 0, .int 0, .int 0, .int 0]))]) hD hS hA [4] rfl
  refine va_callv (va_runIN (As := []) (rest := [.ref q_6, .int 0, .ref q_1]) ⟨hx, hb, hml, hown, hts⟩ (c_X2_init l dC dI e0 q_6 H.size) ⟨va_cnB 0 hts (goodIn_sub (fun _ h9 => List.mem_cons_of_mem _ (List.mem_append_right _ (List.mem_append_right _ (List.mem_append_right _ (List.mem_append_left _ h9))))) (by decide +kernel)) rfl rfl rfl hAm.1.1.2.1 (hts _ (List.mem_cons_of_mem _ (List.mem_append_left _ (List.mem_of_getElem? (i := 6) rfl)))) (by decide +kernel) ⟨(Nat.le_of_ble_eq_true rfl), (Nat.le_of_ble_eq_true rfl)⟩, rfl, (hts _ (List.mem_cons_of_mem _ (List.mem_append_left _ (List.mem_of_getElem? (i := 7) rfl))))⟩ ⟨fz_blind, fz_pre hPc hKc hDc hAm hS hFc⟩ rfl rfl hl.1 rfl (lv_room (Nat.le_of_ble_eq_true rfl)) dX1_init_67 ⟨(Nat.le_of_ble_eq_true rfl), (Nat.le_of_ble_eq_true rfl)⟩) hS (fun q _ h => hFc q h) hFc (fun u t H1 locs ht hvm hw hB hz1 hk1 hS => ?_)
  obtain ⟨hP1, hK1, hD1⟩ := hB
  rw [ht] at hP1
  have hK1 := va_K.moved hvm.symm hK1
  obtain ⟨hP, hD⟩ := va_join (wr := [(h0, .inr (6, [.ref q_1, .ref q_2, .ref q_3, .int 0, .int 0, .int 1])), (q_1, .inl (cA_1, 8, .inr (.inr (.inr (.inr (fun _ => none)))))), (q_2, .inr (7, [.int 0, .int 0, .int 0, .int 0])), (q_3, .inr (9, [.ref hx_4, .ref hy_5]))]) (w1 := [(q_6, .inr (7, [.int 0, .int 0, .int 0, .int 0]))]) hP hD [4] [0, 1, 2, 3] rfl rfl (by decide) (by decide) hk1 hFc hP1 hD1
  generalize H1 = H at hP hS ⊢
  have hP : va_P (dC, dI) vwCl [(h0, .inr (6, [.ref q_1, .ref q_2, .ref q_3, .int 0, .int 0, .int 1])), (q_1, .inl (cA_1, 8, .inr (.inr (.inr (.inr (fun _ => none)))))), (q_2, .inr (7, [.int 0, .int 0, .int 0, .int 0])), (q_3, .inr (9, [.ref hx_4, .ref hy_5])), (q_6, .inr (7, [.int 0, .int 0, .int 0, .int 0]))] H := hP
  have hD : va_D A [(h0, .inr (6, [.ref q_1, .ref q_2, .ref q_3, .int 0, .int 0, .int 1])), (q_1, .inl (cA_1, 8, .inr (.inr (.inr (.inr (fun _ => none)))))), (q_2, .inr (7, [.int 0, .int 0, .int 0, .int 0])), (q_3, .inr (9, [.ref hx_4, .ref hy_5])), (q_6, .inr (7, [.int 0, .int 0, .int 0, .int 0]))] := hD
  have hK : va_K (dC, dI) vwCl [(cA_1, .object RX2)] s := hK
  refine W.widen (k := 6) (n := 26) (Nat.le_of_ble_eq_true rfl) (Nat.le_of_ble_eq_true rfl) ?_
  refine va_astq hx hb hK hP hD hS 1 0 4 7 rfl rfl rfl rfl (fz_il (by decide)) dX1_init_70 (fun H locs hP hD hS => ?_)
  have hP : va_P (dC, dI) vwCl [(h0, .inr (6, [.ref q_1, .ref q_2, .ref q_3, .int 0, .int 0, .int 1])), (q_1, .inl (cA_1, 8, .inr (.inr (.inr (.inr (va_up (fun _ => none) (0 : Int32).toNatClampNeg (some q_6))))))), (q_2, .inr (7, [.int 0, .int 0, .int 0, .int 0])), (q_3, .inr (9, [.ref hx_4, .ref hy_5])), (q_6, .inr (7, [.int 0, .int 0, .int 0, .int 0]))] H := hP
  have hD : va_D A [(h0, .inr (6, [.ref q_1, .ref q_2, .ref q_3, .int 0, .int 0, .int 1])), (q_1, .inl (cA_1, 8, .inr (.inr (.inr (.inr (va_up (fun _ => none) (0 : Int32).toNatClampNeg (some q_6))))))), (q_2, .inr (7, [.int 0, .int 0, .int 0, .int 0])), (q_3, .inr (9, [.ref hx_4, .ref hy_5])), (q_6, .inr (7, [.int 0, .int 0, .int 0, .int 0]))] := hD
  refine lv_iinc (v := 1) (lv' := [(1, .int 1), (0, .ref h0)]) hx hb dX1_init_71 hl (k := 0) rfl (by decide) (by decide) rfl (fun ls hl => ?_)
  refine lv_goto (tgt := 52) hx hb dX1_init_74 (by decide) ?_
  refine lv_iload_n hx hb dX1_init_52 rfl (lv_at hl 0 rfl) ?_
  refine lv_bipush (v := 8) hx hb dX1_init_53 (by decide) ?_
  refine lv_icmp_ge (tgt := 77) hx hb dX1_init_55 (by decide) (fun c_9 => absurd c_9 (by decide)) (fun _ => ?_)
  refine lv_aload_n hx hb dX1_init_58 rfl (lv_at hl 1 rfl) ?_
  refine va_get (D := (dC, dI)) (ci := 6) (v := .ref q_1) (C := RX1) (T := TX1) (N := 6) hx hb hts (fun _ h9 => List.mem_cons_of_mem _ (List.mem_append_right _ (List.mem_append_left _ h9))) hown hK hP 0 rfl rfl 0 (by decide) (hts _ (List.mem_cons_of_mem _ (List.mem_append_left _ (List.mem_of_getElem? (i := 4) rfl)))) (fun _ h9 => h9) rfl dX1_init_59 ?_
  refine lv_iload_n hx hb dX1_init_62 rfl (lv_at hl 0 rfl) ?_
  refine va_new (ci := 7) (fs := [.int 0, .int 0, .int 0, .int 0]) (C := RX2) (T := TX2) (N := 4) hx hb hts (fun _ h9 => List.mem_cons_of_mem _ (List.mem_append_right _ (List.mem_append_right _ (List.mem_append_left _ h9)))) tyX2 tyX2_ok hown (hts _ (List.mem_cons_of_mem _ (List.mem_append_left _ (List.mem_of_getElem? (i := 3) rfl)))) (hts _ (List.mem_cons_of_mem _ (List.mem_append_left _ (List.mem_of_getElem? (i := 5) rfl)))) (hts _ (List.mem_cons_of_mem _ (List.mem_append_left _ (List.mem_of_getElem? (i := 6) rfl)))) hK hP hD hS hA rfl (fun j hj => by rcases (show j = 0 ∨ j = 1 ∨ j = 2 ∨ j = 3 by omega) with rfl | rfl | rfl | rfl <;> rfl) (Nat.le_of_ble_eq_true rfl) (Nat.le_of_ble_eq_true rfl) dX1_init_63 (fun q_7 H hP hD hS => ?_)
  have hP : va_P (dC, dI) vwCl [(h0, .inr (6, [.ref q_1, .ref q_2, .ref q_3, .int 0, .int 0, .int 1])), (q_1, .inl (cA_1, 8, .inr (.inr (.inr (.inr (va_up (fun _ => none) (0 : Int32).toNatClampNeg (some q_6))))))), (q_2, .inr (7, [.int 0, .int 0, .int 0, .int 0])), (q_3, .inr (9, [.ref hx_4, .ref hy_5])), (q_6, .inr (7, [.int 0, .int 0, .int 0, .int 0])), (q_7, .inr (7, [.int 0, .int 0, .int 0, .int 0]))] H := hP
  have hD : va_D A [(h0, .inr (6, [.ref q_1, .ref q_2, .ref q_3, .int 0, .int 0, .int 1])), (q_1, .inl (cA_1, 8, .inr (.inr (.inr (.inr (va_up (fun _ => none) (0 : Int32).toNatClampNeg (some q_6))))))), (q_2, .inr (7, [.int 0, .int 0, .int 0, .int 0])), (q_3, .inr (9, [.ref hx_4, .ref hy_5])), (q_6, .inr (7, [.int 0, .int 0, .int 0, .int 0])), (q_7, .inr (7, [.int 0, .int 0, .int 0, .int 0]))] := hD
  refine W.widen (k := 7) (n := 30) (Nat.le_of_ble_eq_true rfl) (Nat.le_of_ble_eq_true rfl) ?_
  refine lv_dup hx hb dX1_init_66 rfl ?_
  have hPc := hP.sub (ws' := [(q_7, .inr (7, [.int 0, .int 0, .int 0, .int 0]))]) [5] rfl
  have hDc := hD.sub (ws' := [(q_7, .inr (7, [.int 0, .int 0, .int 0, .int 0]))]) [5] (by decide) rfl
  have hKc := hK.sub (tys' := []) [] rfl
  have hFc := va_free (wc := [(q_7, .inr (7, [.int 0, .int 0, .int 0, .int 0]))]) hD hS hA [5] rfl
  refine va_callv (va_runIN (As := []) (rest := [.ref q_7, .int 1, .ref q_1]) ⟨hx, hb, hml, hown, hts⟩ (c_X2_init l dC dI e0 q_7 H.size) ⟨va_cnB 0 hts (goodIn_sub (fun _ h9 => List.mem_cons_of_mem _ (List.mem_append_right _ (List.mem_append_right _ (List.mem_append_right _ (List.mem_append_left _ h9))))) (by decide +kernel)) rfl rfl rfl hAm.1.1.2.1 (hts _ (List.mem_cons_of_mem _ (List.mem_append_left _ (List.mem_of_getElem? (i := 6) rfl)))) (by decide +kernel) ⟨(Nat.le_of_ble_eq_true rfl), (Nat.le_of_ble_eq_true rfl)⟩, rfl, (hts _ (List.mem_cons_of_mem _ (List.mem_append_left _ (List.mem_of_getElem? (i := 7) rfl))))⟩ ⟨fz_blind, fz_pre hPc hKc hDc hAm hS hFc⟩ rfl rfl hl.1 rfl (lv_room (Nat.le_of_ble_eq_true rfl)) dX1_init_67 ⟨(Nat.le_of_ble_eq_true rfl), (Nat.le_of_ble_eq_true rfl)⟩) hS (fun q _ h => hFc q h) hFc (fun u t H1 locs ht hvm hw hB hz1 hk1 hS => ?_)
  obtain ⟨hP1, hK1, hD1⟩ := hB
  rw [ht] at hP1
  have hK1 := va_K.moved hvm.symm hK1
  obtain ⟨hP, hD⟩ := va_join (wr := [(h0, .inr (6, [.ref q_1, .ref q_2, .ref q_3, .int 0, .int 0, .int 1])), (q_1, .inl (cA_1, 8, .inr (.inr (.inr (.inr (va_up (fun _ => none) (0 : Int32).toNatClampNeg (some q_6))))))), (q_2, .inr (7, [.int 0, .int 0, .int 0, .int 0])), (q_3, .inr (9, [.ref hx_4, .ref hy_5])), (q_6, .inr (7, [.int 0, .int 0, .int 0, .int 0]))]) (w1 := [(q_7, .inr (7, [.int 0, .int 0, .int 0, .int 0]))]) hP hD [5] [0, 1, 2, 3, 4] rfl rfl (by decide) (by decide) hk1 hFc hP1 hD1
  generalize H1 = H at hP hS ⊢
  have hP : va_P (dC, dI) vwCl [(h0, .inr (6, [.ref q_1, .ref q_2, .ref q_3, .int 0, .int 0, .int 1])), (q_1, .inl (cA_1, 8, .inr (.inr (.inr (.inr (va_up (fun _ => none) (0 : Int32).toNatClampNeg (some q_6))))))), (q_2, .inr (7, [.int 0, .int 0, .int 0, .int 0])), (q_3, .inr (9, [.ref hx_4, .ref hy_5])), (q_6, .inr (7, [.int 0, .int 0, .int 0, .int 0])), (q_7, .inr (7, [.int 0, .int 0, .int 0, .int 0]))] H := hP
  have hD : va_D A [(h0, .inr (6, [.ref q_1, .ref q_2, .ref q_3, .int 0, .int 0, .int 1])), (q_1, .inl (cA_1, 8, .inr (.inr (.inr (.inr (va_up (fun _ => none) (0 : Int32).toNatClampNeg (some q_6))))))), (q_2, .inr (7, [.int 0, .int 0, .int 0, .int 0])), (q_3, .inr (9, [.ref hx_4, .ref hy_5])), (q_6, .inr (7, [.int 0, .int 0, .int 0, .int 0])), (q_7, .inr (7, [.int 0, .int 0, .int 0, .int 0]))] := hD
  have hK : va_K (dC, dI) vwCl [(cA_1, .object RX2)] s := hK
  refine W.widen (k := 7) (n := 30) (Nat.le_of_ble_eq_true rfl) (Nat.le_of_ble_eq_true rfl) ?_
  refine va_astq hx hb hK hP hD hS 1 0 5 7 rfl rfl rfl rfl (fz_il (by decide)) dX1_init_70 (fun H locs hP hD hS => ?_)
  have hP : va_P (dC, dI) vwCl [(h0, .inr (6, [.ref q_1, .ref q_2, .ref q_3, .int 0, .int 0, .int 1])), (q_1, .inl (cA_1, 8, .inr (.inr (.inr (.inr (va_up (va_up (fun _ => none) (0 : Int32).toNatClampNeg (some q_6)) (1 : Int32).toNatClampNeg (some q_7))))))), (q_2, .inr (7, [.int 0, .int 0, .int 0, .int 0])), (q_3, .inr (9, [.ref hx_4, .ref hy_5])), (q_6, .inr (7, [.int 0, .int 0, .int 0, .int 0])), (q_7, .inr (7, [.int 0, .int 0, .int 0, .int 0]))] H := hP
  have hD : va_D A [(h0, .inr (6, [.ref q_1, .ref q_2, .ref q_3, .int 0, .int 0, .int 1])), (q_1, .inl (cA_1, 8, .inr (.inr (.inr (.inr (va_up (va_up (fun _ => none) (0 : Int32).toNatClampNeg (some q_6)) (1 : Int32).toNatClampNeg (some q_7))))))), (q_2, .inr (7, [.int 0, .int 0, .int 0, .int 0])), (q_3, .inr (9, [.ref hx_4, .ref hy_5])), (q_6, .inr (7, [.int 0, .int 0, .int 0, .int 0])), (q_7, .inr (7, [.int 0, .int 0, .int 0, .int 0]))] := hD
  refine lv_iinc (v := 2) (lv' := [(1, .int 2), (0, .ref h0)]) hx hb dX1_init_71 hl (k := 0) rfl (by decide) (by decide) rfl (fun ls hl => ?_)
  refine lv_goto (tgt := 52) hx hb dX1_init_74 (by decide) ?_
  refine lv_iload_n hx hb dX1_init_52 rfl (lv_at hl 0 rfl) ?_
  refine lv_bipush (v := 8) hx hb dX1_init_53 (by decide) ?_
  refine lv_icmp_ge (tgt := 77) hx hb dX1_init_55 (by decide) (fun c_9 => absurd c_9 (by decide)) (fun _ => ?_)
  refine lv_aload_n hx hb dX1_init_58 rfl (lv_at hl 1 rfl) ?_
  refine va_get (D := (dC, dI)) (ci := 6) (v := .ref q_1) (C := RX1) (T := TX1) (N := 6) hx hb hts (fun _ h9 => List.mem_cons_of_mem _ (List.mem_append_right _ (List.mem_append_left _ h9))) hown hK hP 0 rfl rfl 0 (by decide) (hts _ (List.mem_cons_of_mem _ (List.mem_append_left _ (List.mem_of_getElem? (i := 4) rfl)))) (fun _ h9 => h9) rfl dX1_init_59 ?_
  refine lv_iload_n hx hb dX1_init_62 rfl (lv_at hl 0 rfl) ?_
  refine va_new (ci := 7) (fs := [.int 0, .int 0, .int 0, .int 0]) (C := RX2) (T := TX2) (N := 4) hx hb hts (fun _ h9 => List.mem_cons_of_mem _ (List.mem_append_right _ (List.mem_append_right _ (List.mem_append_left _ h9)))) tyX2 tyX2_ok hown (hts _ (List.mem_cons_of_mem _ (List.mem_append_left _ (List.mem_of_getElem? (i := 3) rfl)))) (hts _ (List.mem_cons_of_mem _ (List.mem_append_left _ (List.mem_of_getElem? (i := 5) rfl)))) (hts _ (List.mem_cons_of_mem _ (List.mem_append_left _ (List.mem_of_getElem? (i := 6) rfl)))) hK hP hD hS hA rfl (fun j hj => by rcases (show j = 0 ∨ j = 1 ∨ j = 2 ∨ j = 3 by omega) with rfl | rfl | rfl | rfl <;> rfl) (Nat.le_of_ble_eq_true rfl) (Nat.le_of_ble_eq_true rfl) dX1_init_63 (fun q_8 H hP hD hS => ?_)
  have hP : va_P (dC, dI) vwCl [(h0, .inr (6, [.ref q_1, .ref q_2, .ref q_3, .int 0, .int 0, .int 1])), (q_1, .inl (cA_1, 8, .inr (.inr (.inr (.inr (va_up (va_up (fun _ => none) (0 : Int32).toNatClampNeg (some q_6)) (1 : Int32).toNatClampNeg (some q_7))))))), (q_2, .inr (7, [.int 0, .int 0, .int 0, .int 0])), (q_3, .inr (9, [.ref hx_4, .ref hy_5])), (q_6, .inr (7, [.int 0, .int 0, .int 0, .int 0])), (q_7, .inr (7, [.int 0, .int 0, .int 0, .int 0])), (q_8, .inr (7, [.int 0, .int 0, .int 0, .int 0]))] H := hP
  have hD : va_D A [(h0, .inr (6, [.ref q_1, .ref q_2, .ref q_3, .int 0, .int 0, .int 1])), (q_1, .inl (cA_1, 8, .inr (.inr (.inr (.inr (va_up (va_up (fun _ => none) (0 : Int32).toNatClampNeg (some q_6)) (1 : Int32).toNatClampNeg (some q_7))))))), (q_2, .inr (7, [.int 0, .int 0, .int 0, .int 0])), (q_3, .inr (9, [.ref hx_4, .ref hy_5])), (q_6, .inr (7, [.int 0, .int 0, .int 0, .int 0])), (q_7, .inr (7, [.int 0, .int 0, .int 0, .int 0])), (q_8, .inr (7, [.int 0, .int 0, .int 0, .int 0]))] := hD
  refine W.widen (k := 8) (n := 34) (Nat.le_of_ble_eq_true rfl) (Nat.le_of_ble_eq_true rfl) ?_
  refine lv_dup hx hb dX1_init_66 rfl ?_
  have hPc := hP.sub (ws' := [(q_8, .inr (7, [.int 0, .int 0, .int 0, .int 0]))]) [6] rfl
  have hDc := hD.sub (ws' := [(q_8, .inr (7, [.int 0, .int 0, .int 0, .int 0]))]) [6] (by decide) rfl
  have hKc := hK.sub (tys' := []) [] rfl
  have hFc := va_free (wc := [(q_8, .inr (7, [.int 0, .int 0, .int 0, .int 0]))]) hD hS hA [6] rfl
  refine va_callv (va_runIN (As := []) (rest := [.ref q_8, .int 2, .ref q_1]) ⟨hx, hb, hml, hown, hts⟩ (c_X2_init l dC dI e0 q_8 H.size) ⟨va_cnB 0 hts (goodIn_sub (fun _ h9 => List.mem_cons_of_mem _ (List.mem_append_right _ (List.mem_append_right _ (List.mem_append_right _ (List.mem_append_left _ h9))))) (by decide +kernel)) rfl rfl rfl hAm.1.1.2.1 (hts _ (List.mem_cons_of_mem _ (List.mem_append_left _ (List.mem_of_getElem? (i := 6) rfl)))) (by decide +kernel) ⟨(Nat.le_of_ble_eq_true rfl), (Nat.le_of_ble_eq_true rfl)⟩, rfl, (hts _ (List.mem_cons_of_mem _ (List.mem_append_left _ (List.mem_of_getElem? (i := 7) rfl))))⟩ ⟨fz_blind, fz_pre hPc hKc hDc hAm hS hFc⟩ rfl rfl hl.1 rfl (lv_room (Nat.le_of_ble_eq_true rfl)) dX1_init_67 ⟨(Nat.le_of_ble_eq_true rfl), (Nat.le_of_ble_eq_true rfl)⟩) hS (fun q _ h => hFc q h) hFc (fun u t H1 locs ht hvm hw hB hz1 hk1 hS => ?_)
  obtain ⟨hP1, hK1, hD1⟩ := hB
  rw [ht] at hP1
  have hK1 := va_K.moved hvm.symm hK1
  obtain ⟨hP, hD⟩ := va_join (wr := [(h0, .inr (6, [.ref q_1, .ref q_2, .ref q_3, .int 0, .int 0, .int 1])), (q_1, .inl (cA_1, 8, .inr (.inr (.inr (.inr (va_up (va_up (fun _ => none) (0 : Int32).toNatClampNeg (some q_6)) (1 : Int32).toNatClampNeg (some q_7))))))), (q_2, .inr (7, [.int 0, .int 0, .int 0, .int 0])), (q_3, .inr (9, [.ref hx_4, .ref hy_5])), (q_6, .inr (7, [.int 0, .int 0, .int 0, .int 0])), (q_7, .inr (7, [.int 0, .int 0, .int 0, .int 0]))]) (w1 := [(q_8, .inr (7, [.int 0, .int 0, .int 0, .int 0]))]) hP hD [6] [0, 1, 2, 3, 4, 5] rfl rfl (by decide) (by decide) hk1 hFc hP1 hD1
  generalize H1 = H at hP hS ⊢
  have hP : va_P (dC, dI) vwCl [(h0, .inr (6, [.ref q_1, .ref q_2, .ref q_3, .int 0, .int 0, .int 1])), (q_1, .inl (cA_1, 8, .inr (.inr (.inr (.inr (va_up (va_up (fun _ => none) (0 : Int32).toNatClampNeg (some q_6)) (1 : Int32).toNatClampNeg (some q_7))))))), (q_2, .inr (7, [.int 0, .int 0, .int 0, .int 0])), (q_3, .inr (9, [.ref hx_4, .ref hy_5])), (q_6, .inr (7, [.int 0, .int 0, .int 0, .int 0])), (q_7, .inr (7, [.int 0, .int 0, .int 0, .int 0])), (q_8, .inr (7, [.int 0, .int 0, .int 0, .int 0]))] H := hP
  have hD : va_D A [(h0, .inr (6, [.ref q_1, .ref q_2, .ref q_3, .int 0, .int 0, .int 1])), (q_1, .inl (cA_1, 8, .inr (.inr (.inr (.inr (va_up (va_up (fun _ => none) (0 : Int32).toNatClampNeg (some q_6)) (1 : Int32).toNatClampNeg (some q_7))))))), (q_2, .inr (7, [.int 0, .int 0, .int 0, .int 0])), (q_3, .inr (9, [.ref hx_4, .ref hy_5])), (q_6, .inr (7, [.int 0, .int 0, .int 0, .int 0])), (q_7, .inr (7, [.int 0, .int 0, .int 0, .int 0])), (q_8, .inr (7, [.int 0, .int 0, .int 0, .int 0]))] := hD
  have hK : va_K (dC, dI) vwCl [(cA_1, .object RX2)] s := hK
  refine W.widen (k := 8) (n := 34) (Nat.le_of_ble_eq_true rfl) (Nat.le_of_ble_eq_true rfl) ?_
  refine va_astq hx hb hK hP hD hS 1 0 6 7 rfl rfl rfl rfl (fz_il (by decide)) dX1_init_70 (fun H locs hP hD hS => ?_)
  have hP : va_P (dC, dI) vwCl [(h0, .inr (6, [.ref q_1, .ref q_2, .ref q_3, .int 0, .int 0, .int 1])), (q_1, .inl (cA_1, 8, .inr (.inr (.inr (.inr (va_up (va_up (va_up (fun _ => none) (0 : Int32).toNatClampNeg (some q_6)) (1 : Int32).toNatClampNeg (some q_7)) (2 : Int32).toNatClampNeg (some q_8))))))), (q_2, .inr (7, [.int 0, .int 0, .int 0, .int 0])), (q_3, .inr (9, [.ref hx_4, .ref hy_5])), (q_6, .inr (7, [.int 0, .int 0, .int 0, .int 0])), (q_7, .inr (7, [.int 0, .int 0, .int 0, .int 0])), (q_8, .inr (7, [.int 0, .int 0, .int 0, .int 0]))] H := hP
  have hD : va_D A [(h0, .inr (6, [.ref q_1, .ref q_2, .ref q_3, .int 0, .int 0, .int 1])), (q_1, .inl (cA_1, 8, .inr (.inr (.inr (.inr (va_up (va_up (va_up (fun _ => none) (0 : Int32).toNatClampNeg (some q_6)) (1 : Int32).toNatClampNeg (some q_7)) (2 : Int32).toNatClampNeg (some q_8))))))), (q_2, .inr (7, [.int 0, .int 0, .int 0, .int 0])), (q_3, .inr (9, [.ref hx_4, .ref hy_5])), (q_6, .inr (7, [.int 0, .int 0, .int 0, .int 0])), (q_7, .inr (7, [.int 0, .int 0, .int 0, .int 0])), (q_8, .inr (7, [.int 0, .int 0, .int 0, .int 0]))] := hD
  refine lv_iinc (v := 3) (lv' := [(1, .int 3), (0, .ref h0)]) hx hb dX1_init_71 hl (k := 0) rfl (by decide) (by decide) rfl (fun ls hl => ?_)
  refine lv_goto (tgt := 52) hx hb dX1_init_74 (by decide) ?_
  refine lv_iload_n hx hb dX1_init_52 rfl (lv_at hl 0 rfl) ?_
  refine lv_bipush (v := 8) hx hb dX1_init_53 (by decide) ?_
  refine lv_icmp_ge (tgt := 77) hx hb dX1_init_55 (by decide) (fun c_9 => absurd c_9 (by decide)) (fun _ => ?_)
  refine lv_aload_n hx hb dX1_init_58 rfl (lv_at hl 1 rfl) ?_
  refine va_get (D := (dC, dI)) (ci := 6) (v := .ref q_1) (C := RX1) (T := TX1) (N := 6) hx hb hts (fun _ h9 => List.mem_cons_of_mem _ (List.mem_append_right _ (List.mem_append_left _ h9))) hown hK hP 0 rfl rfl 0 (by decide) (hts _ (List.mem_cons_of_mem _ (List.mem_append_left _ (List.mem_of_getElem? (i := 4) rfl)))) (fun _ h9 => h9) rfl dX1_init_59 ?_
  refine lv_iload_n hx hb dX1_init_62 rfl (lv_at hl 0 rfl) ?_
  refine va_new (ci := 7) (fs := [.int 0, .int 0, .int 0, .int 0]) (C := RX2) (T := TX2) (N := 4) hx hb hts (fun _ h9 => List.mem_cons_of_mem _ (List.mem_append_right _ (List.mem_append_right _ (List.mem_append_left _ h9)))) tyX2 tyX2_ok hown (hts _ (List.mem_cons_of_mem _ (List.mem_append_left _ (List.mem_of_getElem? (i := 3) rfl)))) (hts _ (List.mem_cons_of_mem _ (List.mem_append_left _ (List.mem_of_getElem? (i := 5) rfl)))) (hts _ (List.mem_cons_of_mem _ (List.mem_append_left _ (List.mem_of_getElem? (i := 6) rfl)))) hK hP hD hS hA rfl (fun j hj => by rcases (show j = 0 ∨ j = 1 ∨ j = 2 ∨ j = 3 by omega) with rfl | rfl | rfl | rfl <;> rfl) (Nat.le_of_ble_eq_true rfl) (Nat.le_of_ble_eq_true rfl) dX1_init_63 (fun q_9 H hP hD hS => ?_)
  have hP : va_P (dC, dI) vwCl [(h0, .inr (6, [.ref q_1, .ref q_2, .ref q_3, .int 0, .int 0, .int 1])), (q_1, .inl (cA_1, 8, .inr (.inr (.inr (.inr (va_up (va_up (va_up (fun _ => none) (0 : Int32).toNatClampNeg (some q_6)) (1 : Int32).toNatClampNeg (some q_7)) (2 : Int32).toNatClampNeg (some q_8))))))), (q_2, .inr (7, [.int 0, .int 0, .int 0, .int 0])), (q_3, .inr (9, [.ref hx_4, .ref hy_5])), (q_6, .inr (7, [.int 0, .int 0, .int 0, .int 0])), (q_7, .inr (7, [.int 0, .int 0, .int 0, .int 0])), (q_8, .inr (7, [.int 0, .int 0, .int 0, .int 0])), (q_9, .inr (7, [.int 0, .int 0, .int 0, .int 0]))] H := hP
  have hD : va_D A [(h0, .inr (6, [.ref q_1, .ref q_2, .ref q_3, .int 0, .int 0, .int 1])), (q_1, .inl (cA_1, 8, .inr (.inr (.inr (.inr (va_up (va_up (va_up (fun _ => none) (0 : Int32).toNatClampNeg (some q_6)) (1 : Int32).toNatClampNeg (some q_7)) (2 : Int32).toNatClampNeg (some q_8))))))), (q_2, .inr (7, [.int 0, .int 0, .int 0, .int 0])), (q_3, .inr (9, [.ref hx_4, .ref hy_5])), (q_6, .inr (7, [.int 0, .int 0, .int 0, .int 0])), (q_7, .inr (7, [.int 0, .int 0, .int 0, .int 0])), (q_8, .inr (7, [.int 0, .int 0, .int 0, .int 0])), (q_9, .inr (7, [.int 0, .int 0, .int 0, .int 0]))] := hD
  refine W.widen (k := 9) (n := 38) (Nat.le_of_ble_eq_true rfl) (Nat.le_of_ble_eq_true rfl) ?_
  refine lv_dup hx hb dX1_init_66 rfl ?_
  have hPc := hP.sub (ws' := [(q_9, .inr (7, [.int 0, .int 0, .int 0, .int 0]))]) [7] rfl
  have hDc := hD.sub (ws' := [(q_9, .inr (7, [.int 0, .int 0, .int 0, .int 0]))]) [7] (by decide) rfl
  have hKc := hK.sub (tys' := []) [] rfl
  have hFc := va_free (wc := [(q_9, .inr (7, [.int 0, .int 0, .int 0, .int 0]))]) hD hS hA [7] rfl
  refine va_callv (va_runIN (As := []) (rest := [.ref q_9, .int 3, .ref q_1]) ⟨hx, hb, hml, hown, hts⟩ (c_X2_init l dC dI e0 q_9 H.size) ⟨va_cnB 0 hts (goodIn_sub (fun _ h9 => List.mem_cons_of_mem _ (List.mem_append_right _ (List.mem_append_right _ (List.mem_append_right _ (List.mem_append_left _ h9))))) (by decide +kernel)) rfl rfl rfl hAm.1.1.2.1 (hts _ (List.mem_cons_of_mem _ (List.mem_append_left _ (List.mem_of_getElem? (i := 6) rfl)))) (by decide +kernel) ⟨(Nat.le_of_ble_eq_true rfl), (Nat.le_of_ble_eq_true rfl)⟩, rfl, (hts _ (List.mem_cons_of_mem _ (List.mem_append_left _ (List.mem_of_getElem? (i := 7) rfl))))⟩ ⟨fz_blind, fz_pre hPc hKc hDc hAm hS hFc⟩ rfl rfl hl.1 rfl (lv_room (Nat.le_of_ble_eq_true rfl)) dX1_init_67 ⟨(Nat.le_of_ble_eq_true rfl), (Nat.le_of_ble_eq_true rfl)⟩) hS (fun q _ h => hFc q h) hFc (fun u t H1 locs ht hvm hw hB hz1 hk1 hS => ?_)
  obtain ⟨hP1, hK1, hD1⟩ := hB
  rw [ht] at hP1
  have hK1 := va_K.moved hvm.symm hK1
  obtain ⟨hP, hD⟩ := va_join (wr := [(h0, .inr (6, [.ref q_1, .ref q_2, .ref q_3, .int 0, .int 0, .int 1])), (q_1, .inl (cA_1, 8, .inr (.inr (.inr (.inr (va_up (va_up (va_up (fun _ => none) (0 : Int32).toNatClampNeg (some q_6)) (1 : Int32).toNatClampNeg (some q_7)) (2 : Int32).toNatClampNeg (some q_8))))))), (q_2, .inr (7, [.int 0, .int 0, .int 0, .int 0])), (q_3, .inr (9, [.ref hx_4, .ref hy_5])), (q_6, .inr (7, [.int 0, .int 0, .int 0, .int 0])), (q_7, .inr (7, [.int 0, .int 0, .int 0, .int 0])), (q_8, .inr (7, [.int 0, .int 0, .int 0, .int 0]))]) (w1 := [(q_9, .inr (7, [.int 0, .int 0, .int 0, .int 0]))]) hP hD [7] [0, 1, 2, 3, 4, 5, 6] rfl rfl (by decide) (by decide) hk1 hFc hP1 hD1
  generalize H1 = H at hP hS ⊢
  have hP : va_P (dC, dI) vwCl [(h0, .inr (6, [.ref q_1, .ref q_2, .ref q_3, .int 0, .int 0, .int 1])), (q_1, .inl (cA_1, 8, .inr (.inr (.inr (.inr (va_up (va_up (va_up (fun _ => none) (0 : Int32).toNatClampNeg (some q_6)) (1 : Int32).toNatClampNeg (some q_7)) (2 : Int32).toNatClampNeg (some q_8))))))), (q_2, .inr (7, [.int 0, .int 0, .int 0, .int 0])), (q_3, .inr (9, [.ref hx_4, .ref hy_5])), (q_6, .inr (7, [.int 0, .int 0, .int 0, .int 0])), (q_7, .inr (7, [.int 0, .int 0, .int 0, .int 0])), (q_8, .inr (7, [.int 0, .int 0, .int 0, .int 0])), (q_9, .inr (7, [.int 0, .int 0, .int 0, .int 0]))] H := hP
  have hD : va_D A [(h0, .inr (6, [.ref q_1, .ref q_2, .ref q_3, .int 0, .int 0, .int 1])), (q_1, .inl (cA_1, 8, .inr (.inr (.inr (.inr (va_up (va_up (va_up (fun _ => none) (0 : Int32).toNatClampNeg (some q_6)) (1 : Int32).toNatClampNeg (some q_7)) (2 : Int32).toNatClampNeg (some q_8))))))), (q_2, .inr (7, [.int 0, .int 0, .int 0, .int 0])), (q_3, .inr (9, [.ref hx_4, .ref hy_5])), (q_6, .inr (7, [.int 0, .int 0, .int 0, .int 0])), (q_7, .inr (7, [.int 0, .int 0, .int 0, .int 0])), (q_8, .inr (7, [.int 0, .int 0, .int 0, .int 0])), (q_9, .inr (7, [.int 0, .int 0, .int 0, .int 0]))] := hD
  have hK : va_K (dC, dI) vwCl [(cA_1, .object RX2)] s := hK
  refine W.widen (k := 9) (n := 38) (Nat.le_of_ble_eq_true rfl) (Nat.le_of_ble_eq_true rfl) ?_
  refine va_astq hx hb hK hP hD hS 1 0 7 7 rfl rfl rfl rfl (fz_il (by decide)) dX1_init_70 (fun H locs hP hD hS => ?_)
  have hP : va_P (dC, dI) vwCl [(h0, .inr (6, [.ref q_1, .ref q_2, .ref q_3, .int 0, .int 0, .int 1])), (q_1, .inl (cA_1, 8, .inr (.inr (.inr (.inr (va_up (va_up (va_up (va_up (fun _ => none) (0 : Int32).toNatClampNeg (some q_6)) (1 : Int32).toNatClampNeg (some q_7)) (2 : Int32).toNatClampNeg (some q_8)) (3 : Int32).toNatClampNeg (some q_9))))))), (q_2, .inr (7, [.int 0, .int 0, .int 0, .int 0])), (q_3, .inr (9, [.ref hx_4, .ref hy_5])), (q_6, .inr (7, [.int 0, .int 0, .int 0, .int 0])), (q_7, .inr (7, [.int 0, .int 0, .int 0, .int 0])), (q_8, .inr (7, [.int 0, .int 0, .int 0, .int 0])), (q_9, .inr (7, [.int 0, .int 0, .int 0, .int 0]))] H := hP
  have hD : va_D A [(h0, .inr (6, [.ref q_1, .ref q_2, .ref q_3, .int 0, .int 0, .int 1])), (q_1, .inl (cA_1, 8, .inr (.inr (.inr (.inr (va_up (va_up (va_up (va_up (fun _ => none) (0 : Int32).toNatClampNeg (some q_6)) (1 : Int32).toNatClampNeg (some q_7)) (2 : Int32).toNatClampNeg (some q_8)) (3 : Int32).toNatClampNeg (some q_9))))))), (q_2, .inr (7, [.int 0, .int 0, .int 0, .int 0])), (q_3, .inr (9, [.ref hx_4, .ref hy_5])), (q_6, .inr (7, [.int 0, .int 0, .int 0, .int 0])), (q_7, .inr (7, [.int 0, .int 0, .int 0, .int 0])), (q_8, .inr (7, [.int 0, .int 0, .int 0, .int 0])), (q_9, .inr (7, [.int 0, .int 0, .int 0, .int 0]))] := hD
  refine lv_iinc (v := 4) (lv' := [(1, .int 4), (0, .ref h0)]) hx hb dX1_init_71 hl (k := 0) rfl (by decide) (by decide) rfl (fun ls hl => ?_)
  refine lv_goto (tgt := 52) hx hb dX1_init_74 (by decide) ?_
  refine lv_iload_n hx hb dX1_init_52 rfl (lv_at hl 0 rfl) ?_
  refine lv_bipush (v := 8) hx hb dX1_init_53 (by decide) ?_
  refine lv_icmp_ge (tgt := 77) hx hb dX1_init_55 (by decide) (fun c_9 => absurd c_9 (by decide)) (fun _ => ?_)
  refine lv_aload_n hx hb dX1_init_58 rfl (lv_at hl 1 rfl) ?_
  refine va_get (D := (dC, dI)) (ci := 6) (v := .ref q_1) (C := RX1) (T := TX1) (N := 6) hx hb hts (fun _ h9 => List.mem_cons_of_mem _ (List.mem_append_right _ (List.mem_append_left _ h9))) hown hK hP 0 rfl rfl 0 (by decide) (hts _ (List.mem_cons_of_mem _ (List.mem_append_left _ (List.mem_of_getElem? (i := 4) rfl)))) (fun _ h9 => h9) rfl dX1_init_59 ?_
  refine lv_iload_n hx hb dX1_init_62 rfl (lv_at hl 0 rfl) ?_
  refine va_new (ci := 7) (fs := [.int 0, .int 0, .int 0, .int 0]) (C := RX2) (T := TX2) (N := 4) hx hb hts (fun _ h9 => List.mem_cons_of_mem _ (List.mem_append_right _ (List.mem_append_right _ (List.mem_append_left _ h9)))) tyX2 tyX2_ok hown (hts _ (List.mem_cons_of_mem _ (List.mem_append_left _ (List.mem_of_getElem? (i := 3) rfl)))) (hts _ (List.mem_cons_of_mem _ (List.mem_append_left _ (List.mem_of_getElem? (i := 5) rfl)))) (hts _ (List.mem_cons_of_mem _ (List.mem_append_left _ (List.mem_of_getElem? (i := 6) rfl)))) hK hP hD hS hA rfl (fun j hj => by rcases (show j = 0 ∨ j = 1 ∨ j = 2 ∨ j = 3 by omega) with rfl | rfl | rfl | rfl <;> rfl) (Nat.le_of_ble_eq_true rfl) (Nat.le_of_ble_eq_true rfl) dX1_init_63 (fun q_10 H hP hD hS => ?_)
  have hP : va_P (dC, dI) vwCl [(h0, .inr (6, [.ref q_1, .ref q_2, .ref q_3, .int 0, .int 0, .int 1])), (q_1, .inl (cA_1, 8, .inr (.inr (.inr (.inr (va_up (va_up (va_up (va_up (fun _ => none) (0 : Int32).toNatClampNeg (some q_6)) (1 : Int32).toNatClampNeg (some q_7)) (2 : Int32).toNatClampNeg (some q_8)) (3 : Int32).toNatClampNeg (some q_9))))))), (q_2, .inr (7, [.int 0, .int 0, .int 0, .int 0])), (q_3, .inr (9, [.ref hx_4, .ref hy_5])), (q_6, .inr (7, [.int 0, .int 0, .int 0, .int 0])), (q_7, .inr (7, [.int 0, .int 0, .int 0, .int 0])), (q_8, .inr (7, [.int 0, .int 0, .int 0, .int 0])), (q_9, .inr (7, [.int 0, .int 0, .int 0, .int 0])), (q_10, .inr (7, [.int 0, .int 0, .int 0, .int 0]))] H := hP
  have hD : va_D A [(h0, .inr (6, [.ref q_1, .ref q_2, .ref q_3, .int 0, .int 0, .int 1])), (q_1, .inl (cA_1, 8, .inr (.inr (.inr (.inr (va_up (va_up (va_up (va_up (fun _ => none) (0 : Int32).toNatClampNeg (some q_6)) (1 : Int32).toNatClampNeg (some q_7)) (2 : Int32).toNatClampNeg (some q_8)) (3 : Int32).toNatClampNeg (some q_9))))))), (q_2, .inr (7, [.int 0, .int 0, .int 0, .int 0])), (q_3, .inr (9, [.ref hx_4, .ref hy_5])), (q_6, .inr (7, [.int 0, .int 0, .int 0, .int 0])), (q_7, .inr (7, [.int 0, .int 0, .int 0, .int 0])), (q_8, .inr (7, [.int 0, .int 0, .int 0, .int 0])), (q_9, .inr (7, [.int 0, .int 0, .int 0, .int 0])), (q_10, .inr (7, [.int 0, .int 0, .int 0, .int 0]))] := hD
  refine W.widen (k := 10) (n := 42) (Nat.le_of_ble_eq_true rfl) (Nat.le_of_ble_eq_true rfl) ?_
  refine lv_dup hx hb dX1_init_66 rfl ?_
  have hPc := hP.sub (ws' := [(q_10, .inr (7, [.int 0, .int 0, .int 0, .int 0]))]) [8] rfl
  have hDc := hD.sub (ws' := [(q_10, .inr (7, [.int 0, .int 0, .int 0, .int 0]))]) [8] (by decide) rfl
  have hKc := hK.sub (tys' := []) [] rfl
  have hFc := va_free (wc := [(q_10, .inr (7, [.int 0, .int 0, .int 0, .int 0]))]) hD hS hA [8] rfl
  refine va_callv (va_runIN (As := []) (rest := [.ref q_10, .int 4, .ref q_1]) ⟨hx, hb, hml, hown, hts⟩ (c_X2_init l dC dI e0 q_10 H.size) ⟨va_cnB 0 hts (goodIn_sub (fun _ h9 => List.mem_cons_of_mem _ (List.mem_append_right _ (List.mem_append_right _ (List.mem_append_right _ (List.mem_append_left _ h9))))) (by decide +kernel)) rfl rfl rfl hAm.1.1.2.1 (hts _ (List.mem_cons_of_mem _ (List.mem_append_left _ (List.mem_of_getElem? (i := 6) rfl)))) (by decide +kernel) ⟨(Nat.le_of_ble_eq_true rfl), (Nat.le_of_ble_eq_true rfl)⟩, rfl, (hts _ (List.mem_cons_of_mem _ (List.mem_append_left _ (List.mem_of_getElem? (i := 7) rfl))))⟩ ⟨fz_blind, fz_pre hPc hKc hDc hAm hS hFc⟩ rfl rfl hl.1 rfl (lv_room (Nat.le_of_ble_eq_true rfl)) dX1_init_67 ⟨(Nat.le_of_ble_eq_true rfl), (Nat.le_of_ble_eq_true rfl)⟩) hS (fun q _ h => hFc q h) hFc (fun u t H1 locs ht hvm hw hB hz1 hk1 hS => ?_)
  obtain ⟨hP1, hK1, hD1⟩ := hB
  rw [ht] at hP1
  have hK1 := va_K.moved hvm.symm hK1
  obtain ⟨hP, hD⟩ := va_join (wr := [(h0, .inr (6, [.ref q_1, .ref q_2, .ref q_3, .int 0, .int 0, .int 1])), (q_1, .inl (cA_1, 8, .inr (.inr (.inr (.inr (va_up (va_up (va_up (va_up (fun _ => none) (0 : Int32).toNatClampNeg (some q_6)) (1 : Int32).toNatClampNeg (some q_7)) (2 : Int32).toNatClampNeg (some q_8)) (3 : Int32).toNatClampNeg (some q_9))))))), (q_2, .inr (7, [.int 0, .int 0, .int 0, .int 0])), (q_3, .inr (9, [.ref hx_4, .ref hy_5])), (q_6, .inr (7, [.int 0, .int 0, .int 0, .int 0])), (q_7, .inr (7, [.int 0, .int 0, .int 0, .int 0])), (q_8, .inr (7, [.int 0, .int 0, .int 0, .int 0])), (q_9, .inr (7, [.int 0, .int 0, .int 0, .int 0]))]) (w1 := [(q_10, .inr (7, [.int 0, .int 0, .int 0, .int 0]))]) hP hD [8] [0, 1, 2, 3, 4, 5, 6, 7] rfl rfl (by decide) (by decide) hk1 hFc hP1 hD1
  generalize H1 = H at hP hS ⊢
  have hP : va_P (dC, dI) vwCl [(h0, .inr (6, [.ref q_1, .ref q_2, .ref q_3, .int 0, .int 0, .int 1])), (q_1, .inl (cA_1, 8, .inr (.inr (.inr (.inr (va_up (va_up (va_up (va_up (fun _ => none) (0 : Int32).toNatClampNeg (some q_6)) (1 : Int32).toNatClampNeg (some q_7)) (2 : Int32).toNatClampNeg (some q_8)) (3 : Int32).toNatClampNeg (some q_9))))))), (q_2, .inr (7, [.int 0, .int 0, .int 0, .int 0])), (q_3, .inr (9, [.ref hx_4, .ref hy_5])), (q_6, .inr (7, [.int 0, .int 0, .int 0, .int 0])), (q_7, .inr (7, [.int 0, .int 0, .int 0, .int 0])), (q_8, .inr (7, [.int 0, .int 0, .int 0, .int 0])), (q_9, .inr (7, [.int 0, .int 0, .int 0, .int 0])), (q_10, .inr (7, [.int 0, .int 0, .int 0, .int 0]))] H := hP
  have hD : va_D A [(h0, .inr (6, [.ref q_1, .ref q_2, .ref q_3, .int 0, .int 0, .int 1])), (q_1, .inl (cA_1, 8, .inr (.inr (.inr (.inr (va_up (va_up (va_up (va_up (fun _ => none) (0 : Int32).toNatClampNeg (some q_6)) (1 : Int32).toNatClampNeg (some q_7)) (2 : Int32).toNatClampNeg (some q_8)) (3 : Int32).toNatClampNeg (some q_9))))))), (q_2, .inr (7, [.int 0, .int 0, .int 0, .int 0])), (q_3, .inr (9, [.ref hx_4, .ref hy_5])), (q_6, .inr (7, [.int 0, .int 0, .int 0, .int 0])), (q_7, .inr (7, [.int 0, .int 0, .int 0, .int 0])), (q_8, .inr (7, [.int 0, .int 0, .int 0, .int 0])), (q_9, .inr (7, [.int 0, .int 0, .int 0, .int 0])), (q_10, .inr (7, [.int 0, .int 0, .int 0, .int 0]))] := hD
  have hK : va_K (dC, dI) vwCl [(cA_1, .object RX2)] s := hK
  refine W.widen (k := 10) (n := 42) (Nat.le_of_ble_eq_true rfl) (Nat.le_of_ble_eq_true rfl) ?_
  refine va_astq hx hb hK hP hD hS 1 0 8 7 rfl rfl rfl rfl (fz_il (by decide)) dX1_init_70 (fun H locs hP hD hS => ?_)
  have hP : va_P (dC, dI) vwCl [(h0, .inr (6, [.ref q_1, .ref q_2, .ref q_3, .int 0, .int 0, .int 1])), (q_1, .inl (cA_1, 8, .inr (.inr (.inr (.inr (va_up (va_up (va_up (va_up (va_up (fun _ => none) (0 : Int32).toNatClampNeg (some q_6)) (1 : Int32).toNatClampNeg (some q_7)) (2 : Int32).toNatClampNeg (some q_8)) (3 : Int32).toNatClampNeg (some q_9)) (4 : Int32).toNatClampNeg (some q_10))))))), (q_2, .inr (7, [.int 0, .int 0, .int 0, .int 0])), (q_3, .inr (9, [.ref hx_4, .ref hy_5])), (q_6, .inr (7, [.int 0, .int 0, .int 0, .int 0])), (q_7, .inr (7, [.int 0, .int 0, .int 0, .int 0])), (q_8, .inr (7, [.int 0, .int 0, .int 0, .int 0])), (q_9, .inr (7, [.int 0, .int 0, .int 0, .int 0])), (q_10, .inr (7, [.int 0, .int 0, .int 0, .int 0]))] H := hP
  have hD : va_D A [(h0, .inr (6, [.ref q_1, .ref q_2, .ref q_3, .int 0, .int 0, .int 1])), (q_1, .inl (cA_1, 8, .inr (.inr (.inr (.inr (va_up (va_up (va_up (va_up (va_up (fun _ => none) (0 : Int32).toNatClampNeg (some q_6)) (1 : Int32).toNatClampNeg (some q_7)) (2 : Int32).toNatClampNeg (some q_8)) (3 : Int32).toNatClampNeg (some q_9)) (4 : Int32).toNatClampNeg (some q_10))))))), (q_2, .inr (7, [.int 0, .int 0, .int 0, .int 0])), (q_3, .inr (9, [.ref hx_4, .ref hy_5])), (q_6, .inr (7, [.int 0, .int 0, .int 0, .int 0])), (q_7, .inr (7, [.int 0, .int 0, .int 0, .int 0])), (q_8, .inr (7, [.int 0, .int 0, .int 0, .int 0])), (q_9, .inr (7, [.int 0, .int 0, .int 0, .int 0])), (q_10, .inr (7, [.int 0, .int 0, .int 0, .int 0]))] := hD
  refine lv_iinc (v := 5) (lv' := [(1, .int 5), (0, .ref h0)]) hx hb dX1_init_71 hl (k := 0) rfl (by decide) (by decide) rfl (fun ls hl => ?_)
  refine lv_goto (tgt := 52) hx hb dX1_init_74 (by decide) ?_
  refine lv_iload_n hx hb dX1_init_52 rfl (lv_at hl 0 rfl) ?_
  refine lv_bipush (v := 8) hx hb dX1_init_53 (by decide) ?_
  refine lv_icmp_ge (tgt := 77) hx hb dX1_init_55 (by decide) (fun c_9 => absurd c_9 (by decide)) (fun _ => ?_)
  refine lv_aload_n hx hb dX1_init_58 rfl (lv_at hl 1 rfl) ?_
  refine va_get (D := (dC, dI)) (ci := 6) (v := .ref q_1) (C := RX1) (T := TX1) (N := 6) hx hb hts (fun _ h9 => List.mem_cons_of_mem _ (List.mem_append_right _ (List.mem_append_left _ h9))) hown hK hP 0 rfl rfl 0 (by decide) (hts _ (List.mem_cons_of_mem _ (List.mem_append_left _ (List.mem_of_getElem? (i := 4) rfl)))) (fun _ h9 => h9) rfl dX1_init_59 ?_
  refine lv_iload_n hx hb dX1_init_62 rfl (lv_at hl 0 rfl) ?_
  refine va_new (ci := 7) (fs := [.int 0, .int 0, .int 0, .int 0]) (C := RX2) (T := TX2) (N := 4) hx hb hts (fun _ h9 => List.mem_cons_of_mem _ (List.mem_append_right _ (List.mem_append_right _ (List.mem_append_left _ h9)))) tyX2 tyX2_ok hown (hts _ (List.mem_cons_of_mem _ (List.mem_append_left _ (List.mem_of_getElem? (i := 3) rfl)))) (hts _ (List.mem_cons_of_mem _ (List.mem_append_left _ (List.mem_of_getElem? (i := 5) rfl)))) (hts _ (List.mem_cons_of_mem _ (List.mem_append_left _ (List.mem_of_getElem? (i := 6) rfl)))) hK hP hD hS hA rfl (fun j hj => by rcases (show j = 0 ∨ j = 1 ∨ j = 2 ∨ j = 3 by omega) with rfl | rfl | rfl | rfl <;> rfl) (Nat.le_of_ble_eq_true rfl) (Nat.le_of_ble_eq_true rfl) dX1_init_63 (fun q_11 H hP hD hS => ?_)
  have hP : va_P (dC, dI) vwCl [(h0, .inr (6, [.ref q_1, .ref q_2, .ref q_3, .int 0, .int 0, .int 1])), (q_1, .inl (cA_1, 8, .inr (.inr (.inr (.inr (va_up (va_up (va_up (va_up (va_up (fun _ => none) (0 : Int32).toNatClampNeg (some q_6)) (1 : Int32).toNatClampNeg (some q_7)) (2 : Int32).toNatClampNeg (some q_8)) (3 : Int32).toNatClampNeg (some q_9)) (4 : Int32).toNatClampNeg (some q_10))))))), (q_2, .inr (7, [.int 0, .int 0, .int 0, .int 0])), (q_3, .inr (9, [.ref hx_4, .ref hy_5])), (q_6, .inr (7, [.int 0, .int 0, .int 0, .int 0])), (q_7, .inr (7, [.int 0, .int 0, .int 0, .int 0])), (q_8, .inr (7, [.int 0, .int 0, .int 0, .int 0])), (q_9, .inr (7, [.int 0, .int 0, .int 0, .int 0])), (q_10, .inr (7, [.int 0, .int 0, .int 0, .int 0])), (q_11, .inr (7, [.int 0, .int 0, .int 0, .int 0]))] H := hP
  have hD : va_D A [(h0, .inr (6, [.ref q_1, .ref q_2, .ref q_3, .int 0, .int 0, .int 1])), (q_1, .inl (cA_1, 8, .inr (.inr (.inr (.inr (va_up (va_up (va_up (va_up (va_up (fun _ => none) (0 : Int32).toNatClampNeg (some q_6)) (1 : Int32).toNatClampNeg (some q_7)) (2 : Int32).toNatClampNeg (some q_8)) (3 : Int32).toNatClampNeg (some q_9)) (4 : Int32).toNatClampNeg (some q_10))))))), (q_2, .inr (7, [.int 0, .int 0, .int 0, .int 0])), (q_3, .inr (9, [.ref hx_4, .ref hy_5])), (q_6, .inr (7, [.int 0, .int 0, .int 0, .int 0])), (q_7, .inr (7, [.int 0, .int 0, .int 0, .int 0])), (q_8, .inr (7, [.int 0, .int 0, .int 0, .int 0])), (q_9, .inr (7, [.int 0, .int 0, .int 0, .int 0])), (q_10, .inr (7, [.int 0, .int 0, .int 0, .int 0])), (q_11, .inr (7, [.int 0, .int 0, .int 0, .int 0]))] := hD
  refine W.widen (k := 11) (n := 46) (Nat.le_of_ble_eq_true rfl) (Nat.le_of_ble_eq_true rfl) ?_
  refine lv_dup hx hb dX1_init_66 rfl ?_
  have hPc := hP.sub (ws' := [(q_11, .inr (7, [.int 0, .int 0, .int 0, .int 0]))]) [9] rfl
  have hDc := hD.sub (ws' := [(q_11, .inr (7, [.int 0, .int 0, .int 0, .int 0]))]) [9] (by decide) rfl
  have hKc := hK.sub (tys' := []) [] rfl
  have hFc := va_free (wc := [(q_11, .inr (7, [.int 0, .int 0, .int 0, .int 0]))]) hD hS hA [9] rfl
  refine va_callv (va_runIN (As := []) (rest := [.ref q_11, .int 5, .ref q_1]) ⟨hx, hb, hml, hown, hts⟩ (c_X2_init l dC dI e0 q_11 H.size) ⟨va_cnB 0 hts (goodIn_sub (fun _ h9 => List.mem_cons_of_mem _ (List.mem_append_right _ (List.mem_append_right _ (List.mem_append_right _ (List.mem_append_left _ h9))))) (by decide +kernel)) rfl rfl rfl hAm.1.1.2.1 (hts _ (List.mem_cons_of_mem _ (List.mem_append_left _ (List.mem_of_getElem? (i := 6) rfl)))) (by decide +kernel) ⟨(Nat.le_of_ble_eq_true rfl), (Nat.le_of_ble_eq_true rfl)⟩, rfl, (hts _ (List.mem_cons_of_mem _ (List.mem_append_left _ (List.mem_of_getElem? (i := 7) rfl))))⟩ ⟨fz_blind, fz_pre hPc hKc hDc hAm hS hFc⟩ rfl rfl hl.1 rfl (lv_room (Nat.le_of_ble_eq_true rfl)) dX1_init_67 ⟨(Nat.le_of_ble_eq_true rfl), (Nat.le_of_ble_eq_true rfl)⟩) hS (fun q _ h => hFc q h) hFc (fun u t H1 locs ht hvm hw hB hz1 hk1 hS => ?_)
  obtain ⟨hP1, hK1, hD1⟩ := hB
  rw [ht] at hP1
  have hK1 := va_K.moved hvm.symm hK1
  obtain ⟨hP, hD⟩ := va_join (wr := [(h0, .inr (6, [.ref q_1, .ref q_2, .ref q_3, .int 0, .int 0, .int 1])), (q_1, .inl (cA_1, 8, .inr (.inr (.inr (.inr (va_up (va_up (va_up (va_up (va_up (fun _ => none) (0 : Int32).toNatClampNeg (some q_6)) (1 : Int32).toNatClampNeg (some q_7)) (2 : Int32).toNatClampNeg (some q_8)) (3 : Int32).toNatClampNeg (some q_9)) (4 : Int32).toNatClampNeg (some q_10))))))), (q_2, .inr (7, [.int 0, .int 0, .int 0, .int 0])), (q_3, .inr (9, [.ref hx_4, .ref hy_5])), (q_6, .inr (7, [.int 0, .int 0, .int 0, .int 0])), (q_7, .inr (7, [.int 0, .int 0, .int 0, .int 0])), (q_8, .inr (7, [.int 0, .int 0, .int 0, .int 0])), (q_9, .inr (7, [.int 0, .int 0, .int 0, .int 0])), (q_10, .inr (7, [.int 0, .int 0, .int 0, .int 0]))]) (w1 := [(q_11, .inr (7, [.int 0, .int 0, .int 0, .int 0]))]) hP hD [9] [0, 1, 2, 3, 4, 5, 6, 7, 8] rfl rfl (by decide) (by decide) hk1 hFc hP1 hD1
  generalize H1 = H at hP hS ⊢
  have hP : va_P (dC, dI) vwCl [(h0, .inr (6, [.ref q_1, .ref q_2, .ref q_3, .int 0, .int 0, .int 1])), (q_1, .inl (cA_1, 8, .inr (.inr (.inr (.inr (va_up (va_up (va_up (va_up (va_up (fun _ => none) (0 : Int32).toNatClampNeg (some q_6)) (1 : Int32).toNatClampNeg (some q_7)) (2 : Int32).toNatClampNeg (some q_8)) (3 : Int32).toNatClampNeg (some q_9)) (4 : Int32).toNatClampNeg (some q_10))))))), (q_2, .inr (7, [.int 0, .int 0, .int 0, .int 0])), (q_3, .inr (9, [.ref hx_4, .ref hy_5])), (q_6, .inr (7, [.int 0, .int 0, .int 0, .int 0])), (q_7, .inr (7, [.int 0, .int 0, .int 0, .int 0])), (q_8, .inr (7, [.int 0, .int 0, .int 0, .int 0])), (q_9, .inr (7, [.int 0, .int 0, .int 0, .int 0])), (q_10, .inr (7, [.int 0, .int 0, .int 0, .int 0])), (q_11, .inr (7, [.int 0, .int 0, .int 0, .int 0]))] H := hP
  have hD : va_D A [(h0, .inr (6, [.ref q_1, .ref q_2, .ref q_3, .int 0, .int 0, .int 1])), (q_1, .inl (cA_1, 8, .inr (.inr (.inr (.inr (va_up (va_up (va_up (va_up (va_up (fun _ => none) (0 : Int32).toNatClampNeg (some q_6)) (1 : Int32).toNatClampNeg (some q_7)) (2 : Int32).toNatClampNeg (some q_8)) (3 : Int32).toNatClampNeg (some q_9)) (4 : Int32).toNatClampNeg (some q_10))))))), (q_2, .inr (7, [.int 0, .int 0, .int 0, .int 0])), (q_3, .inr (9, [.ref hx_4, .ref hy_5])), (q_6, .inr (7, [.int 0, .int 0, .int 0, .int 0])), (q_7, .inr (7, [.int 0, .int 0, .int 0, .int 0])), (q_8, .inr (7, [.int 0, .int 0, .int 0, .int 0])), (q_9, .inr (7, [.int 0, .int 0, .int 0, .int 0])), (q_10, .inr (7, [.int 0, .int 0, .int 0, .int 0])), (q_11, .inr (7, [.int 0, .int 0, .int 0, .int 0]))] := hD
  have hK : va_K (dC, dI) vwCl [(cA_1, .object RX2)] s := hK
  refine W.widen (k := 11) (n := 46) (Nat.le_of_ble_eq_true rfl) (Nat.le_of_ble_eq_true rfl) ?_
  refine va_astq hx hb hK hP hD hS 1 0 9 7 rfl rfl rfl rfl (fz_il (by decide)) dX1_init_70 (fun H locs hP hD hS => ?_)
  have hP : va_P (dC, dI) vwCl [(h0, .inr (6, [.ref q_1, .ref q_2, .ref q_3, .int 0, .int 0, .int 1])), (q_1, .inl (cA_1, 8, .inr (.inr (.inr (.inr (va_up (va_up (va_up (va_up (va_up (va_up (fun _ => none) (0 : Int32).toNatClampNeg (some q_6)) (1 : Int32).toNatClampNeg (some q_7)) (2 : Int32).toNatClampNeg (some q_8)) (3 : Int32).toNatClampNeg (some q_9)) (4 : Int32).toNatClampNeg (some q_10)) (5 : Int32).toNatClampNeg (some q_11))))))), (q_2, .inr (7, [.int 0, .int 0, .int 0, .int 0])), (q_3, .inr (9, [.ref hx_4, .ref hy_5])), (q_6, .inr (7, [.int 0, .int 0, .int 0, .int 0])), (q_7, .inr (7, [.int 0, .int 0, .int 0, .int 0])), (q_8, .inr (7, [.int 0, .int 0, .int 0, .int 0])), (q_9, .inr (7, [.int 0, .int 0, .int 0, .int 0])), (q_10, .inr (7, [.int 0, .int 0, .int 0, .int 0])), (q_11, .inr (7, [.int 0, .int 0, .int 0, .int 0]))] H := hP
  have hD : va_D A [(h0, .inr (6, [.ref q_1, .ref q_2, .ref q_3, .int 0, .int 0, .int 1])), (q_1, .inl (cA_1, 8, .inr (.inr (.inr (.inr (va_up (va_up (va_up (va_up (va_up (va_up (fun _ => none) (0 : Int32).toNatClampNeg (some q_6)) (1 : Int32).toNatClampNeg (some q_7)) (2 : Int32).toNatClampNeg (some q_8)) (3 : Int32).toNatClampNeg (some q_9)) (4 : Int32).toNatClampNeg (some q_10)) (5 : Int32).toNatClampNeg (some q_11))))))), (q_2, .inr (7, [.int 0, .int 0, .int 0, .int 0])), (q_3, .inr (9, [.ref hx_4, .ref hy_5])), (q_6, .inr (7, [.int 0, .int 0, .int 0, .int 0])), (q_7, .inr (7, [.int 0, .int 0, .int 0, .int 0])), (q_8, .inr (7, [.int 0, .int 0, .int 0, .int 0])), (q_9, .inr (7, [.int 0, .int 0, .int 0, .int 0])), (q_10, .inr (7, [.int 0, .int 0, .int 0, .int 0])), (q_11, .inr (7, [.int 0, .int 0, .int 0, .int 0]))] := hD
  refine lv_iinc (v := 6) (lv' := [(1, .int 6), (0, .ref h0)]) hx hb dX1_init_71 hl (k := 0) rfl (by decide) (by decide) rfl (fun ls hl => ?_)
  refine lv_goto (tgt := 52) hx hb dX1_init_74 (by decide) ?_
  refine lv_iload_n hx hb dX1_init_52 rfl (lv_at hl 0 rfl) ?_
  refine lv_bipush (v := 8) hx hb dX1_init_53 (by decide) ?_
  refine lv_icmp_ge (tgt := 77) hx hb dX1_init_55 (by decide) (fun c_9 => absurd c_9 (by decide)) (fun _ => ?_)
  refine lv_aload_n hx hb dX1_init_58 rfl (lv_at hl 1 rfl) ?_
  refine va_get (D := (dC, dI)) (ci := 6) (v := .ref q_1) (C := RX1) (T := TX1) (N := 6) hx hb hts (fun _ h9 => List.mem_cons_of_mem _ (List.mem_append_right _ (List.mem_append_left _ h9))) hown hK hP 0 rfl rfl 0 (by decide) (hts _ (List.mem_cons_of_mem _ (List.mem_append_left _ (List.mem_of_getElem? (i := 4) rfl)))) (fun _ h9 => h9) rfl dX1_init_59 ?_
  refine lv_iload_n hx hb dX1_init_62 rfl (lv_at hl 0 rfl) ?_
  refine va_new (ci := 7) (fs := [.int 0, .int 0, .int 0, .int 0]) (C := RX2) (T := TX2) (N := 4) hx hb hts (fun _ h9 => List.mem_cons_of_mem _ (List.mem_append_right _ (List.mem_append_right _ (List.mem_append_left _ h9)))) tyX2 tyX2_ok hown (hts _ (List.mem_cons_of_mem _ (List.mem_append_left _ (List.mem_of_getElem? (i := 3) rfl)))) (hts _ (List.mem_cons_of_mem _ (List.mem_append_left _ (List.mem_of_getElem? (i := 5) rfl)))) (hts _ (List.mem_cons_of_mem _ (List.mem_append_left _ (List.mem_of_getElem? (i := 6) rfl)))) hK hP hD hS hA rfl (fun j hj => by rcases (show j = 0 ∨ j = 1 ∨ j = 2 ∨ j = 3 by omega) with rfl | rfl | rfl | rfl <;> rfl) (Nat.le_of_ble_eq_true rfl) (Nat.le_of_ble_eq_true rfl) dX1_init_63 (fun q_12 H hP hD hS => ?_)
  have hP : va_P (dC, dI) vwCl [(h0, .inr (6, [.ref q_1, .ref q_2, .ref q_3, .int 0, .int 0, .int 1])), (q_1, .inl (cA_1, 8, .inr (.inr (.inr (.inr (va_up (va_up (va_up (va_up (va_up (va_up (fun _ => none) (0 : Int32).toNatClampNeg (some q_6)) (1 : Int32).toNatClampNeg (some q_7)) (2 : Int32).toNatClampNeg (some q_8)) (3 : Int32).toNatClampNeg (some q_9)) (4 : Int32).toNatClampNeg (some q_10)) (5 : Int32).toNatClampNeg (some q_11))))))), (q_2, .inr (7, [.int 0, .int 0, .int 0, .int 0])), (q_3, .inr (9, [.ref hx_4, .ref hy_5])), (q_6, .inr (7, [.int 0, .int 0, .int 0, .int 0])), (q_7, .inr (7, [.int 0, .int 0, .int 0, .int 0])), (q_8, .inr (7, [.int 0, .int 0, .int 0, .int 0])), (q_9, .inr (7, [.int 0, .int 0, .int 0, .int 0])), (q_10, .inr (7, [.int 0, .int 0, .int 0, .int 0])), (q_11, .inr (7, [.int 0, .int 0, .int 0, .int 0])), (q_12, .inr (7, [.int 0, .int 0, .int 0, .int 0]))] H := hP
  have hD : va_D A [(h0, .inr (6, [.ref q_1, .ref q_2, .ref q_3, .int 0, .int 0, .int 1])), (q_1, .inl (cA_1, 8, .inr (.inr (.inr (.inr (va_up (va_up (va_up (va_up (va_up (va_up (fun _ => none) (0 : Int32).toNatClampNeg (some q_6)) (1 : Int32).toNatClampNeg (some q_7)) (2 : Int32).toNatClampNeg (some q_8)) (3 : Int32).toNatClampNeg (some q_9)) (4 : Int32).toNatClampNeg (some q_10)) (5 : Int32).toNatClampNeg (some q_11))))))), (q_2, .inr (7, [.int 0, .int 0, .int 0, .int 0])), (q_3, .inr (9, [.ref hx_4, .ref hy_5])), (q_6, .inr (7, [.int 0, .int 0, .int 0, .int 0])), (q_7, .inr (7, [.int 0, .int 0, .int 0, .int 0])), (q_8, .inr (7, [.int 0, .int 0, .int 0, .int 0])), (q_9, .inr (7, [.int 0, .int 0, .int 0, .int 0])), (q_10, .inr (7, [.int 0, .int 0, .int 0, .int 0])), (q_11, .inr (7, [.int 0, .int 0, .int 0, .int 0])), (q_12, .inr (7, [.int 0, .int 0, .int 0, .int 0]))] := hD
  refine W.widen (k := 12) (n := 50) (Nat.le_of_ble_eq_true rfl) (Nat.le_of_ble_eq_true rfl) ?_
  refine lv_dup hx hb dX1_init_66 rfl ?_
  have hPc := hP.sub (ws' := [(q_12, .inr (7, [.int 0, .int 0, .int 0, .int 0]))]) [10] rfl
  have hDc := hD.sub (ws' := [(q_12, .inr (7, [.int 0, .int 0, .int 0, .int 0]))]) [10] (by decide) rfl
  have hKc := hK.sub (tys' := []) [] rfl
  have hFc := va_free (wc := [(q_12, .inr (7, [.int 0, .int 0, .int 0, .int 0]))]) hD hS hA [10] rfl
  refine va_callv (va_runIN (As := []) (rest := [.ref q_12, .int 6, .ref q_1]) ⟨hx, hb, hml, hown, hts⟩ (c_X2_init l dC dI e0 q_12 H.size) ⟨va_cnB 0 hts (goodIn_sub (fun _ h9 => List.mem_cons_of_mem _ (List.mem_append_right _ (List.mem_append_right _ (List.mem_append_right _ (List.mem_append_left _ h9))))) (by decide +kernel)) rfl rfl rfl hAm.1.1.2.1 (hts _ (List.mem_cons_of_mem _ (List.mem_append_left _ (List.mem_of_getElem? (i := 6) rfl)))) (by decide +kernel) ⟨(Nat.le_of_ble_eq_true rfl), (Nat.le_of_ble_eq_true rfl)⟩, rfl, (hts _ (List.mem_cons_of_mem _ (List.mem_append_left _ (List.mem_of_getElem? (i := 7) rfl))))⟩ ⟨fz_blind, fz_pre hPc hKc hDc hAm hS hFc⟩ rfl rfl hl.1 rfl (lv_room (Nat.le_of_ble_eq_true rfl)) dX1_init_67 ⟨(Nat.le_of_ble_eq_true rfl), (Nat.le_of_ble_eq_true rfl)⟩) hS (fun q _ h => hFc q h) hFc (fun u t H1 locs ht hvm hw hB hz1 hk1 hS => ?_)
  obtain ⟨hP1, hK1, hD1⟩ := hB
  rw [ht] at hP1
  have hK1 := va_K.moved hvm.symm hK1
  obtain ⟨hP, hD⟩ := va_join (wr := [(h0, .inr (6, [.ref q_1, .ref q_2, .ref q_3, .int 0, .int 0, .int 1])), (q_1, .inl (cA_1, 8, .inr (.inr (.inr (.inr (va_up (va_up (va_up (va_up (va_up (va_up (fun _ => none) (0 : Int32).toNatClampNeg (some q_6)) (1 : Int32).toNatClampNeg (some q_7)) (2 : Int32).toNatClampNeg (some q_8)) (3 : Int32).toNatClampNeg (some q_9)) (4 : Int32).toNatClampNeg (some q_10)) (5 : Int32).toNatClampNeg (some q_11))))))), (q_2, .inr (7, [.int 0, .int 0, .int 0, .int 0])), (q_3, .inr (9, [.ref hx_4, .ref hy_5])), (q_6, .inr (7, [.int 0, .int 0, .int 0, .int 0])), (q_7, .inr (7, [.int 0, .int 0, .int 0, .int 0])), (q_8, .inr (7, [.int 0, .int 0, .int 0, .int 0])), (q_9, .inr (7, [.int 0, .int 0, .int 0, .int 0])), (q_10, .inr (7, [.int 0, .int 0, .int 0, .int 0])), (q_11, .inr (7, [.int 0, .int 0, .int 0, .int 0]))]) (w1 := [(q_12, .inr (7, [.int 0, .int 0, .int 0, .int 0]))]) hP hD [10] [0, 1, 2, 3, 4, 5, 6, 7, 8, 9] rfl rfl (by decide) (by decide) hk1 hFc hP1 hD1
  generalize H1 = H at hP hS ⊢
  have hP : va_P (dC, dI) vwCl [(h0, .inr (6, [.ref q_1, .ref q_2, .ref q_3, .int 0, .int 0, .int 1])), (q_1, .inl (cA_1, 8, .inr (.inr (.inr (.inr (va_up (va_up (va_up (va_up (va_up (va_up (fun _ => none) (0 : Int32).toNatClampNeg (some q_6)) (1 : Int32).toNatClampNeg (some q_7)) (2 : Int32).toNatClampNeg (some q_8)) (3 : Int32).toNatClampNeg (some q_9)) (4 : Int32).toNatClampNeg (some q_10)) (5 : Int32).toNatClampNeg (some q_11))))))), (q_2, .inr (7, [.int 0, .int 0, .int 0, .int 0])), (q_3, .inr (9, [.ref hx_4, .ref hy_5])), (q_6, .inr (7, [.int 0, .int 0, .int 0, .int 0])), (q_7, .inr (7, [.int 0, .int 0, .int 0, .int 0])), (q_8, .inr (7, [.int 0, .int 0, .int 0, .int 0])), (q_9, .inr (7, [.int 0, .int 0, .int 0, .int 0])), (q_10, .inr (7, [.int 0, .int 0, .int 0, .int 0])), (q_11, .inr (7, [.int 0, .int 0, .int 0, .int 0])), (q_12, .inr (7, [.int 0, .int 0, .int 0, .int 0]))] H := hP
  have hD : va_D A [(h0, .inr (6, [.ref q_1, .ref q_2, .ref q_3, .int 0, .int 0, .int 1])), (q_1, .inl (cA_1, 8, .inr (.inr (.inr (.inr (va_up (va_up (va_up (va_up (va_up (va_up (fun _ => none) (0 : Int32).toNatClampNeg (some q_6)) (1 : Int32).toNatClampNeg (some q_7)) (2 : Int32).toNatClampNeg (some q_8)) (3 : Int32).toNatClampNeg (some q_9)) (4 : Int32).toNatClampNeg (some q_10)) (5 : Int32).toNatClampNeg (some q_11))))))), (q_2, .inr (7, [.int 0, .int 0, .int 0, .int 0])), (q_3, .inr (9, [.ref hx_4, .ref hy_5])), (q_6, .inr (7, [.int 0, .int 0, .int 0, .int 0])), (q_7, .inr (7, [.int 0, .int 0, .int 0, .int 0])), (q_8, .inr (7, [.int 0, .int 0, .int 0, .int 0])), (q_9, .inr (7, [.int 0, .int 0, .int 0, .int 0])), (q_10, .inr (7, [.int 0, .int 0, .int 0, .int 0])), (q_11, .inr (7, [.int 0, .int 0, .int 0, .int 0])), (q_12, .inr (7, [.int 0, .int 0, .int 0, .int 0]))] := hD
  have hK : va_K (dC, dI) vwCl [(cA_1, .object RX2)] s := hK
  refine W.widen (k := 12) (n := 50) (Nat.le_of_ble_eq_true rfl) (Nat.le_of_ble_eq_true rfl) ?_
  refine va_astq hx hb hK hP hD hS 1 0 10 7 rfl rfl rfl rfl (fz_il (by decide)) dX1_init_70 (fun H locs hP hD hS => ?_)
  have hP : va_P (dC, dI) vwCl [(h0, .inr (6, [.ref q_1, .ref q_2, .ref q_3, .int 0, .int 0, .int 1])), (q_1, .inl (cA_1, 8, .inr (.inr (.inr (.inr (va_up (va_up (va_up (va_up (va_up (va_up (va_up (fun _ => none) (0 : Int32).toNatClampNeg (some q_6)) (1 : Int32).toNatClampNeg (some q_7)) (2 : Int32).toNatClampNeg (some q_8)) (3 : Int32).toNatClampNeg (some q_9)) (4 : Int32).toNatClampNeg (some q_10)) (5 : Int32).toNatClampNeg (some q_11)) (6 : Int32).toNatClampNeg (some q_12))))))), (q_2, .inr (7, [.int 0, .int 0, .int 0, .int 0])), (q_3, .inr (9, [.ref hx_4, .ref hy_5])), (q_6, .inr (7, [.int 0, .int 0, .int 0, .int 0])), (q_7, .inr (7, [.int 0, .int 0, .int 0, .int 0])), (q_8, .inr (7, [.int 0, .int 0, .int 0, .int 0])), (q_9, .inr (7, [.int 0, .int 0, .int 0, .int 0])), (q_10, .inr (7, [.int 0, .int 0, .int 0, .int 0])), (q_11, .inr (7, [.int 0, .int 0, .int 0, .int 0])), (q_12, .inr (7, [.int 0, .int 0, .int 0, .int 0]))] H := hP
  have hD : va_D A [(h0, .inr (6, [.ref q_1, .ref q_2, .ref q_3, .int 0, .int 0, .int 1])), (q_1, .inl (cA_1, 8, .inr (.inr (.inr (.inr (va_up (va_up (va_up (va_up (va_up (va_up (va_up (fun _ => none) (0 : Int32).toNatClampNeg (some q_6)) (1 : Int32).toNatClampNeg (some q_7)) (2 : Int32).toNatClampNeg (some q_8)) (3 : Int32).toNatClampNeg (some q_9)) (4 : Int32).toNatClampNeg (some q_10)) (5 : Int32).toNatClampNeg (some q_11)) (6 : Int32).toNatClampNeg (some q_12))))))), (q_2, .inr (7, [.int 0, .int 0, .int 0, .int 0])), (q_3, .inr (9, [.ref hx_4, .ref hy_5])), (q_6, .inr (7, [.int 0, .int 0, .int 0, .int 0])), (q_7, .inr (7, [.int 0, .int 0, .int 0, .int 0])), (q_8, .inr (7, [.int 0, .int 0, .int 0, .int 0])), (q_9, .inr (7, [.int 0, .int 0, .int 0, .int 0])), (q_10, .inr (7, [.int 0, .int 0, .int 0, .int 0])), (q_11, .inr (7, [.int 0, .int 0, .int 0, .int 0])), (q_12, .inr (7, [.int 0, .int 0, .int 0, .int 0]))] := hD
  refine lv_iinc (v := 7) (lv' := [(1, .int 7), (0, .ref h0)]) hx hb dX1_init_71 hl (k := 0) rfl (by decide) (by decide) rfl (fun ls hl => ?_)
  refine lv_goto (tgt := 52) hx hb dX1_init_74 (by decide) ?_
  refine lv_iload_n hx hb dX1_init_52 rfl (lv_at hl 0 rfl) ?_
  refine lv_bipush (v := 8) hx hb dX1_init_53 (by decide) ?_
  refine lv_icmp_ge (tgt := 77) hx hb dX1_init_55 (by decide) (fun c_9 => absurd c_9 (by decide)) (fun _ => ?_)
  refine lv_aload_n hx hb dX1_init_58 rfl (lv_at hl 1 rfl) ?_
  refine va_get (D := (dC, dI)) (ci := 6) (v := .ref q_1) (C := RX1) (T := TX1) (N := 6) hx hb hts (fun _ h9 => List.mem_cons_of_mem _ (List.mem_append_right _ (List.mem_append_left _ h9))) hown hK hP 0 rfl rfl 0 (by decide) (hts _ (List.mem_cons_of_mem _ (List.mem_append_left _ (List.mem_of_getElem? (i := 4) rfl)))) (fun _ h9 => h9) rfl dX1_init_59 ?_
  refine lv_iload_n hx hb dX1_init_62 rfl (lv_at hl 0 rfl) ?_
  refine va_new (ci := 7) (fs := [.int 0, .int 0, .int 0, .int 0]) (C := RX2) (T := TX2) (N := 4) hx hb hts (fun _ h9 => List.mem_cons_of_mem _ (List.mem_append_right _ (List.mem_append_right _ (List.mem_append_left _ h9)))) tyX2 tyX2_ok hown (hts _ (List.mem_cons_of_mem _ (List.mem_append_left _ (List.mem_of_getElem? (i := 3) rfl)))) (hts _ (List.mem_cons_of_mem _ (List.mem_append_left _ (List.mem_of_getElem? (i := 5) rfl)))) (hts _ (List.mem_cons_of_mem _ (List.mem_append_left _ (List.mem_of_getElem? (i := 6) rfl)))) hK hP hD hS hA rfl (fun j hj => by rcases (show j = 0 ∨ j = 1 ∨ j = 2 ∨ j = 3 by omega) with rfl | rfl | rfl | rfl <;> rfl) (Nat.le_of_ble_eq_true rfl) (Nat.le_of_ble_eq_true rfl) dX1_init_63 (fun q_13 H hP hD hS => ?_)
  have hP : va_P (dC, dI) vwCl [(h0, .inr (6, [.ref q_1, .ref q_2, .ref q_3, .int 0, .int 0, .int 1])), (q_1, .inl (cA_1, 8, .inr (.inr (.inr (.inr (va_up (va_up (va_up (va_up (va_up (va_up (va_up (fun _ => none) (0 : Int32).toNatClampNeg (some q_6)) (1 : Int32).toNatClampNeg (some q_7)) (2 : Int32).toNatClampNeg (some q_8)) (3 : Int32).toNatClampNeg (some q_9)) (4 : Int32).toNatClampNeg (some q_10)) (5 : Int32).toNatClampNeg (some q_11)) (6 : Int32).toNatClampNeg (some q_12))))))), (q_2, .inr (7, [.int 0, .int 0, .int 0, .int 0])), (q_3, .inr (9, [.ref hx_4, .ref hy_5])), (q_6, .inr (7, [.int 0, .int 0, .int 0, .int 0])), (q_7, .inr (7, [.int 0, .int 0, .int 0, .int 0])), (q_8, .inr (7, [.int 0, .int 0, .int 0, .int 0])), (q_9, .inr (7, [.int 0, .int 0, .int 0, .int 0])), (q_10, .inr (7, [.int 0, .int 0, .int 0, .int 0])), (q_11, .inr (7, [.int 0, .int 0, .int 0, .int 0])), (q_12, .inr (7, [.int 0, .int 0, .int 0, .int 0])), (q_13, .inr (7, [.int 0, .int 0, .int 0, .int 0]))] H := hP
  have hD : va_D A [(h0, .inr (6, [.ref q_1, .ref q_2, .ref q_3, .int 0, .int 0, .int 1])), (q_1, .inl (cA_1, 8, .inr (.inr (.inr (.inr (va_up (va_up (va_up (va_up (va_up (va_up (va_up (fun _ => none) (0 : Int32).toNatClampNeg (some q_6)) (1 : Int32).toNatClampNeg (some q_7)) (2 : Int32).toNatClampNeg (some q_8)) (3 : Int32).toNatClampNeg (some q_9)) (4 : Int32).toNatClampNeg (some q_10)) (5 : Int32).toNatClampNeg (some q_11)) (6 : Int32).toNatClampNeg (some q_12))))))), (q_2, .inr (7, [.int 0, .int 0, .int 0, .int 0])), (q_3, .inr (9, [.ref hx_4, .ref hy_5])), (q_6, .inr (7, [.int 0, .int 0, .int 0, .int 0])), (q_7, .inr (7, [.int 0, .int 0, .int 0, .int 0])), (q_8, .inr (7, [.int 0, .int 0, .int 0, .int 0])), (q_9, .inr (7, [.int 0, .int 0, .int 0, .int 0])), (q_10, .inr (7, [.int 0, .int 0, .int 0, .int 0])), (q_11, .inr (7, [.int 0, .int 0, .int 0, .int 0])), (q_12, .inr (7, [.int 0, .int 0, .int 0, .int 0])), (q_13, .inr (7, [.int 0, .int 0, .int 0, .int 0]))] := hD
  refine W.widen (k := 13) (n := 54) (Nat.le_of_ble_eq_true rfl) (Nat.le_of_ble_eq_true rfl) ?_
  refine lv_dup hx hb dX1_init_66 rfl ?_
  have hPc := hP.sub (ws' := [(q_13, .inr (7, [.int 0, .int 0, .int 0, .int 0]))]) [11] rfl
  have hDc := hD.sub (ws' := [(q_13, .inr (7, [.int 0, .int 0, .int 0, .int 0]))]) [11] (by decide) rfl
  have hKc := hK.sub (tys' := []) [] rfl
  have hFc := va_free (wc := [(q_13, .inr (7, [.int 0, .int 0, .int 0, .int 0]))]) hD hS hA [11] rfl
  refine va_callv (va_runIN (As := []) (rest := [.ref q_13, .int 7, .ref q_1]) ⟨hx, hb, hml, hown, hts⟩ (c_X2_init l dC dI e0 q_13 H.size) ⟨va_cnB 0 hts (goodIn_sub (fun _ h9 => List.mem_cons_of_mem _ (List.mem_append_right _ (List.mem_append_right _ (List.mem_append_right _ (List.mem_append_left _ h9))))) (by decide +kernel)) rfl rfl rfl hAm.1.1.2.1 (hts _ (List.mem_cons_of_mem _ (List.mem_append_left _ (List.mem_of_getElem? (i := 6) rfl)))) (by decide +kernel) ⟨(Nat.le_of_ble_eq_true rfl), (Nat.le_of_ble_eq_true rfl)⟩, rfl, (hts _ (List.mem_cons_of_mem _ (List.mem_append_left _ (List.mem_of_getElem? (i := 7) rfl))))⟩ ⟨fz_blind, fz_pre hPc hKc hDc hAm hS hFc⟩ rfl rfl hl.1 rfl (lv_room (Nat.le_of_ble_eq_true rfl)) dX1_init_67 ⟨(Nat.le_of_ble_eq_true rfl), (Nat.le_of_ble_eq_true rfl)⟩) hS (fun q _ h => hFc q h) hFc (fun u t H1 locs ht hvm hw hB hz1 hk1 hS => ?_)
  obtain ⟨hP1, hK1, hD1⟩ := hB
  rw [ht] at hP1
  have hK1 := va_K.moved hvm.symm hK1
  obtain ⟨hP, hD⟩ := va_join (wr := [(h0, .inr (6, [.ref q_1, .ref q_2, .ref q_3, .int 0, .int 0, .int 1])), (q_1, .inl (cA_1, 8, .inr (.inr (.inr (.inr (va_up (va_up (va_up (va_up (va_up (va_up (va_up (fun _ => none) (0 : Int32).toNatClampNeg (some q_6)) (1 : Int32).toNatClampNeg (some q_7)) (2 : Int32).toNatClampNeg (some q_8)) (3 : Int32).toNatClampNeg (some q_9)) (4 : Int32).toNatClampNeg (some q_10)) (5 : Int32).toNatClampNeg (some q_11)) (6 : Int32).toNatClampNeg (some q_12))))))), (q_2, .inr (7, [.int 0, .int 0, .int 0, .int 0])), (q_3, .inr (9, [.ref hx_4, .ref hy_5])), (q_6, .inr (7, [.int 0, .int 0, .int 0, .int 0])), (q_7, .inr (7, [.int 0, .int 0, .int 0, .int 0])), (q_8, .inr (7, [.int 0, .int 0, .int 0, .int 0])), (q_9, .inr (7, [.int 0, .int 0, .int 0, .int 0])), (q_10, .inr (7, [.int 0, .int 0, .int 0, .int 0])), (q_11, .inr (7, [.int 0, .int 0, .int 0, .int 0])), (q_12, .inr (7, [.int 0, .int 0, .int 0, .int 0]))]) (w1 := [(q_13, .inr (7, [.int 0, .int 0, .int 0, .int 0]))]) hP hD [11] [0, 1, 2, 3, 4, 5, 6, 7, 8, 9, 10] rfl rfl (by decide) (by decide) hk1 hFc hP1 hD1
  generalize H1 = H at hP hS ⊢
  have hP : va_P (dC, dI) vwCl [(h0, .inr (6, [.ref q_1, .ref q_2, .ref q_3, .int 0, .int 0, .int 1])), (q_1, .inl (cA_1, 8, .inr (.inr (.inr (.inr (va_up (va_up (va_up (va_up (va_up (va_up (va_up (fun _ => none) (0 : Int32).toNatClampNeg (some q_6)) (1 : Int32).toNatClampNeg (some q_7)) (2 : Int32).toNatClampNeg (some q_8)) (3 : Int32).toNatClampNeg (some q_9)) (4 : Int32).toNatClampNeg (some q_10)) (5 : Int32).toNatClampNeg (some q_11)) (6 : Int32).toNatClampNeg (some q_12))))))), (q_2, .inr (7, [.int 0, .int 0, .int 0, .int 0])), (q_3, .inr (9, [.ref hx_4, .ref hy_5])), (q_6, .inr (7, [.int 0, .int 0, .int 0, .int 0])), (q_7, .inr (7, [.int 0, .int 0, .int 0, .int 0])), (q_8, .inr (7, [.int 0, .int 0, .int 0, .int 0])), (q_9, .inr (7, [.int 0, .int 0, .int 0, .int 0])), (q_10, .inr (7, [.int 0, .int 0, .int 0, .int 0])), (q_11, .inr (7, [.int 0, .int 0, .int 0, .int 0])), (q_12, .inr (7, [.int 0, .int 0, .int 0, .int 0])), (q_13, .inr (7, [.int 0, .int 0, .int 0, .int 0]))] H := hP
  have hD : va_D A [(h0, .inr (6, [.ref q_1, .ref q_2, .ref q_3, .int 0, .int 0, .int 1])), (q_1, .inl (cA_1, 8, .inr (.inr (.inr (.inr (va_up (va_up (va_up (va_up (va_up (va_up (va_up (fun _ => none) (0 : Int32).toNatClampNeg (some q_6)) (1 : Int32).toNatClampNeg (some q_7)) (2 : Int32).toNatClampNeg (some q_8)) (3 : Int32).toNatClampNeg (some q_9)) (4 : Int32).toNatClampNeg (some q_10)) (5 : Int32).toNatClampNeg (some q_11)) (6 : Int32).toNatClampNeg (some q_12))))))), (q_2, .inr (7, [.int 0, .int 0, .int 0, .int 0])), (q_3, .inr (9, [.ref hx_4, .ref hy_5])), (q_6, .inr (7, [.int 0, .int 0, .int 0, .int 0])), (q_7, .inr (7, [.int 0, .int 0, .int 0, .int 0])), (q_8, .inr (7, [.int 0, .int 0, .int 0, .int 0])), (q_9, .inr (7, [.int 0, .int 0, .int 0, .int 0])), (q_10, .inr (7, [.int 0, .int 0, .int 0, .int 0])), (q_11, .inr (7, [.int 0, .int 0, .int 0, .int 0])), (q_12, .inr (7, [.int 0, .int 0, .int 0, .int 0])), (q_13, .inr (7, [.int 0, .int 0, .int 0, .int 0]))] := hD
  have hK : va_K (dC, dI) vwCl [(cA_1, .object RX2)] s := hK
  refine W.widen (k := 13) (n := 54) (Nat.le_of_ble_eq_true rfl) (Nat.le_of_ble_eq_true rfl) ?_
  refine va_astq hx hb hK hP hD hS 1 0 11 7 rfl rfl rfl rfl (fz_il (by decide)) dX1_init_70 (fun H locs hP hD hS => ?_)
  have hP : va_P (dC, dI) vwCl [(h0, .inr (6, [.ref q_1, .ref q_2, .ref q_3, .int 0, .int 0, .int 1])), (q_1, .inl (cA_1, 8, .inr (.inr (.inr (.inr (va_up (va_up (va_up (va_up (va_up (va_up (va_up (va_up (fun _ => none) (0 : Int32).toNatClampNeg (some q_6)) (1 : Int32).toNatClampNeg (some q_7)) (2 : Int32).toNatClampNeg (some q_8)) (3 : Int32).toNatClampNeg (some q_9)) (4 : Int32).toNatClampNeg (some q_10)) (5 : Int32).toNatClampNeg (some q_11)) (6 : Int32).toNatClampNeg (some q_12)) (7 : Int32).toNatClampNeg (some q_13))))))), (q_2, .inr (7, [.int 0, .int 0, .int 0, .int 0])), (q_3, .inr (9, [.ref hx_4, .ref hy_5])), (q_6, .inr (7, [.int 0, .int 0, .int 0, .int 0])), (q_7, .inr (7, [.int 0, .int 0, .int 0, .int 0])), (q_8, .inr (7, [.int 0, .int 0, .int 0, .int 0])), (q_9, .inr (7, [.int 0, .int 0, .int 0, .int 0])), (q_10, .inr (7, [.int 0, .int 0, .int 0, .int 0])), (q_11, .inr (7, [.int 0, .int 0, .int 0, .int 0])), (q_12, .inr (7, [.int 0, .int 0, .int 0, .int 0])), (q_13, .inr (7, [.int 0, .int 0, .int 0, .int 0]))] H := hP
  have hD : va_D A [(h0, .inr (6, [.ref q_1, .ref q_2, .ref q_3, .int 0, .int 0, .int 1])), (q_1, .inl (cA_1, 8, .inr (.inr (.inr (.inr (va_up (va_up (va_up (va_up (va_up (va_up (va_up (va_up (fun _ => none) (0 : Int32).toNatClampNeg (some q_6)) (1 : Int32).toNatClampNeg (some q_7)) (2 : Int32).toNatClampNeg (some q_8)) (3 : Int32).toNatClampNeg (some q_9)) (4 : Int32).toNatClampNeg (some q_10)) (5 : Int32).toNatClampNeg (some q_11)) (6 : Int32).toNatClampNeg (some q_12)) (7 : Int32).toNatClampNeg (some q_13))))))), (q_2, .inr (7, [.int 0, .int 0, .int 0, .int 0])), (q_3, .inr (9, [.ref hx_4, .ref hy_5])), (q_6, .inr (7, [.int 0, .int 0, .int 0, .int 0])), (q_7, .inr (7, [.int 0, .int 0, .int 0, .int 0])), (q_8, .inr (7, [.int 0, .int 0, .int 0, .int 0])), (q_9, .inr (7, [.int 0, .int 0, .int 0, .int 0])), (q_10, .inr (7, [.int 0, .int 0, .int 0, .int 0])), (q_11, .inr (7, [.int 0, .int 0, .int 0, .int 0])), (q_12, .inr (7, [.int 0, .int 0, .int 0, .int 0])), (q_13, .inr (7, [.int 0, .int 0, .int 0, .int 0]))] := hD
  refine lv_iinc (v := 8) (lv' := [(1, .int 8), (0, .ref h0)]) hx hb dX1_init_71 hl (k := 0) rfl (by decide) (by decide) rfl (fun ls hl => ?_)
  refine lv_goto (tgt := 52) hx hb dX1_init_74 (by decide) ?_
  refine lv_iload_n hx hb dX1_init_52 rfl (lv_at hl 0 rfl) ?_
  refine lv_bipush (v := 8) hx hb dX1_init_53 (by decide) ?_
  refine lv_icmp_ge (tgt := 77) hx hb dX1_init_55 (by decide) (fun _ => ?_) (fun c_9 => absurd (by decide) c_9)
  have hP9 := hP.sub (ws' := [(h0, .inr (6, [.ref q_1, .ref q_2, .ref q_3, .int 0, .int 0, .int 1])), (q_1, .inl (cA_1, 8, .inr (.inr (.inr (.inr (va_up (va_up (va_up (va_up (va_up (va_up (va_up (va_up (fun _ => none) (0 : Int32).toNatClampNeg (some q_6)) (1 : Int32).toNatClampNeg (some q_7)) (2 : Int32).toNatClampNeg (some q_8)) (3 : Int32).toNatClampNeg (some q_9)) (4 : Int32).toNatClampNeg (some q_10)) (5 : Int32).toNatClampNeg (some q_11)) (6 : Int32).toNatClampNeg (some q_12)) (7 : Int32).toNatClampNeg (some q_13))))))), (q_6, .inr (7, [.int 0, .int 0, .int 0, .int 0])), (q_2, .inr (7, [.int 0, .int 0, .int 0, .int 0]))]) [0, 1, 4, 2] rfl
  have hD9 := hD.sub (ws' := [(h0, .inr (6, [.ref q_1, .ref q_2, .ref q_3, .int 0, .int 0, .int 1])), (q_1, .inl (cA_1, 8, .inr (.inr (.inr (.inr (va_up (va_up (va_up (va_up (va_up (va_up (va_up (va_up (fun _ => none) (0 : Int32).toNatClampNeg (some q_6)) (1 : Int32).toNatClampNeg (some q_7)) (2 : Int32).toNatClampNeg (some q_8)) (3 : Int32).toNatClampNeg (some q_9)) (4 : Int32).toNatClampNeg (some q_10)) (5 : Int32).toNatClampNeg (some q_11)) (6 : Int32).toNatClampNeg (some q_12)) (7 : Int32).toNatClampNeg (some q_13))))))), (q_6, .inr (7, [.int 0, .int 0, .int 0, .int 0])), (q_2, .inr (7, [.int 0, .int 0, .int 0, .int 0]))]) [0, 1, 4, 2] (by decide) rfl
  have hK9 := hK.sub (tys' := [(cA_1, .object RX2)]) [0] rfl
  refine W.widen (k := 13) (n := 54) (Nat.le_of_ble_eq_true rfl) (Nat.le_of_ble_eq_true rfl) ?_
  exact W.vret hx hb hr (fun t ht hW => ⟨⟨(), rfl, trivial, ⟨q_1, q_2, q_3, cA_1, (va_up (va_up (va_up (va_up (va_up (va_up (va_up (va_up (fun _ => none) (0 : Int32).toNatClampNeg (some q_6)) (1 : Int32).toNatClampNeg (some q_7)) (2 : Int32).toNatClampNeg (some q_8)) (3 : Int32).toNatClampNeg (some q_9)) (4 : Int32).toNatClampNeg (some q_10)) (5 : Int32).toNatClampNeg (some q_11)) (6 : Int32).toNatClampNeg (some q_12)) (7 : Int32).toNatClampNeg (some q_13)), q_6, (by first | rfl | (simp [va_up]; done)), by rw [ht]; exact hP9, va_K.moved hW.alike hK9, hD9⟩⟩, hS.F ht⟩) hS.2.2 dX1_init_77
def v_c_X1_placeCount : List Cond := .code yX1_placeCount cX1_placeCount 1 (some .int) :: ([.fieldLink RX1 29 "VoussoirYard$Drawing" "count" "I", .methodLink RX1 39 Lib.Math.max.name, .static Lib.Math.max.name, .initialized "java/lang/Math", .code Lib.Math.max.name Lib.Math.max.code 2 (some .int)] ++ (wsX10))
set_option maxRecDepth 20000 in
theorem i_c_X1_placeCount : ∀ w ∈ v_c_X1_placeCount, w ∈ lw_tbl := List.forall_mem_cons.mpr ⟨List.mem_of_getElem? (i := 275) (by decide +kernel), List.forall_mem_append.mpr ⟨List.forall_mem_cons.mpr ⟨List.mem_of_getElem? (i := 151) (by decide +kernel), List.forall_mem_cons.mpr ⟨List.mem_of_getElem? (i := 276) (by decide +kernel), List.forall_mem_cons.mpr ⟨List.mem_of_getElem? (i := 277) (by decide +kernel), List.forall_mem_cons.mpr ⟨List.mem_of_getElem? (i := 67) (by decide +kernel), List.forall_mem_cons.mpr ⟨List.mem_of_getElem? (i := 278) (by decide +kernel), fun _ h => absurd h List.not_mem_nil⟩⟩⟩⟩⟩, inX1⟩⟩
set_option maxHeartbeats 4000000 in
set_option maxRecDepth 100000 in
theorem c_X1_placeCount (l : Launch) (dC : Nat → ClassId) (dI : Nat → Nat → Nat) (e0 : Nat) (h0 hj hpr hqd : Nat) (sz : Nat) : Met l yX1_placeCount v_c_X1_placeCount ({ frames := 1, cells := 0, slots := 0, locals := 30 }) (fz_P (dC, dI) e0 [(h0, .inr (6, [.ref hj, .ref hpr, .ref hqd, .int 0, .int 0, .int 1]))] [] sz (fun q : Nat => sz ≤ q) [.ref h0]) (va_Qi (fun (r : Int32) (u : Unit) => r = 0) (fun (u : Unit) (t : State) => True) (fun q : Nat => sz ≤ q)) 0 0 (fun q : Nat => sz ≤ q) := by
  refine Met.ofW (cc := cX1_placeCount) (maxL := 1) (ret := (some .int)) (by decide) rfl ?_
  intro p e s m args below meth c s₁ B hml hv
  obtain ⟨rfl, hsz, hP, hK, hD0, hAm⟩ := hv
  have hx := B.exec
  have hb := B.bytes
  have hr := B.returns
  have hts := atoms_spec (ws := v_c_X1_placeCount) B.pre
  have hown : s.vm.findClass RX1 = some m.cls := findClass_of_methodNamed B.named
  have hlocks := B.notSynchronized
  subst hsz
  have hD := hD0
  generalize hAe : (fun q : Nat => s.heap.size ≤ q) = A at hAm ⊢
  have hA : ∀ q : Nat, s.heap.size ≤ q → A q := fun q h => by rw [← hAe]; exact h
  have hS : va_S A s.heap s.heap [] := va_S.rf
  have hP : va_P (dC, dI) vwCl [(h0, .inr (6, [.ref hj, .ref hpr, .ref hqd, .int 0, .int 0, .int 1]))] s.heap := hP
  have hl := lv_entry ([.ref h0]) (n := 1) (Nat.le_of_ble_eq_true rfl)
  rw [lg_entry_eq]
  generalize (lg_sl ([.ref h0]) ++ List.replicate (1 - (lg_sl ([.ref h0])).length) Slot.unset).toArray = ls at hl ⊢
  have hl : lv_has ls 1 [(0, .ref h0)] := hl
  refine lv_iconst (v := 0) hx hb dX1_placeCount_0 (by decide) ?_
  refine lv_aload_n hx hb dX1_placeCount_1 rfl (lv_at hl 0 rfl) ?_
  refine va_get (D := (dC, dI)) (ci := 6) (v := .int 0) (C := RX1) (T := TX1) (N := 6) hx hb hts (fun _ h9 => List.mem_cons_of_mem _ (List.mem_append_right _ (h9))) hown hK hP 0 rfl rfl 3 (by decide) (hts _ (List.mem_cons_of_mem _ (List.mem_append_left _ (List.mem_of_getElem? (i := 0) rfl)))) (fun _ h9 => h9) rfl dX1_placeCount_2 ?_
  refine lv_iconst (v := 1) hx hb dX1_placeCount_5 (by decide) ?_
  refine lv_isub hx hb dX1_placeCount_6 ?_
  refine lv_topi (fun z_9 e_9 => ?_)
  obtain rfl : (-1) = z_9 := (e_9.trans (by decide)).symm
  refine va_mmax hx hb (hml.trans hl.1.symm) hown (hts _ (List.mem_cons_of_mem _ (List.mem_append_left _ (List.mem_of_getElem? (i := 1) rfl)))) (hts _ (List.mem_cons_of_mem _ (List.mem_append_left _ (List.mem_of_getElem? (i := 2) rfl)))) (hts _ (List.mem_cons_of_mem _ (List.mem_append_left _ (List.mem_of_getElem? (i := 3) rfl)))) (hts _ (List.mem_cons_of_mem _ (List.mem_append_left _ (List.mem_of_getElem? (i := 4) rfl)))) (Nat.le_of_ble_eq_true rfl) (Nat.le_of_ble_eq_true rfl) (Nat.le_of_ble_eq_true rfl) (Nat.le_of_ble_eq_true rfl) dX1_placeCount_7 ?_
  refine lv_topi (fun z_9 e_9 => ?_)
  obtain rfl : 0 = z_9 := (e_9.trans (by decide)).symm
  refine W.widen (k := 0) (n := 0) (Nat.le_of_ble_eq_true rfl) (Nat.le_of_ble_eq_true rfl) ?_
  exact W.iret (v := 0) hx hb hr (fun t ht hW => ⟨⟨0, (), rfl, rfl, trivial⟩, hS.F ht⟩) hS.2.2 dX1_placeCount_10
def v_c_X1_hasPlace : List Cond := .code yX1_hasPlace cX1_hasPlace 2 (some .boolean) :: ([] ++ (wsV RX1 45 RX1 yX1_placeCount v_c_X1_placeCount))
set_option maxRecDepth 20000 in
theorem i_c_X1_hasPlace : ∀ w ∈ v_c_X1_hasPlace, w ∈ lw_tbl := List.forall_mem_cons.mpr ⟨List.mem_of_getElem? (i := 643) (by decide +kernel), List.forall_mem_append.mpr ⟨fun _ h => absurd h List.not_mem_nil, (by unfold wsV; exact List.forall_mem_append.mpr ⟨List.forall_mem_cons.mpr ⟨List.mem_of_getElem? (i := 336) (by decide +kernel), List.forall_mem_cons.mpr ⟨List.mem_of_getElem? (i := 273) (by decide +kernel), List.forall_mem_cons.mpr ⟨List.mem_of_getElem? (i := 274) (by decide +kernel), List.forall_mem_cons.mpr ⟨List.mem_of_getElem? (i := 50) (by decide +kernel), fun _ h => absurd h List.not_mem_nil⟩⟩⟩⟩, i_c_X1_placeCount⟩)⟩⟩
set_option maxHeartbeats 4000000 in
set_option maxRecDepth 100000 in
theorem c_X1_hasPlace (l : Launch) (dC : Nat → ClassId) (dI : Nat → Nat → Nat) (e0 : Nat) (h0 : Nat) (p0 : Int32) (hj hpr hqd : Nat) (sz : Nat) : Met l yX1_hasPlace v_c_X1_hasPlace ({ frames := 2, cells := 0, slots := 0, locals := 50 }) (fz_P (dC, dI) e0 [(h0, .inr (6, [.ref hj, .ref hpr, .ref hqd, .int 0, .int 0, .int 1]))] [] sz (fun q : Nat => sz ≤ q) [.ref h0, .int p0]) (va_Qi (fun (r : Int32) (u : Unit) => r = 0) (fun (u : Unit) (t : State) => True) (fun q : Nat => sz ≤ q)) 0 0 (fun q : Nat => sz ≤ q) := by
  refine Met.ofW (cc := cX1_hasPlace) (maxL := 2) (ret := (some .boolean)) (by decide) rfl ?_
  intro p e s m args below meth c s₁ B hml hv
  obtain ⟨rfl, hsz, hP, hK, hD0, hAm⟩ := hv
  have hx := B.exec
  have hb := B.bytes
  have hr := B.returns
  have hts := atoms_spec (ws := v_c_X1_hasPlace) B.pre
  have hown : s.vm.findClass RX1 = some m.cls := findClass_of_methodNamed B.named
  have hlocks := B.notSynchronized
  subst hsz
  have hD := hD0
  generalize hAe : (fun q : Nat => s.heap.size ≤ q) = A at hAm ⊢
  have hA : ∀ q : Nat, s.heap.size ≤ q → A q := fun q h => by rw [← hAe]; exact h
  have hS : va_S A s.heap s.heap [] := va_S.rf
  have hP : va_P (dC, dI) vwCl [(h0, .inr (6, [.ref hj, .ref hpr, .ref hqd, .int 0, .int 0, .int 1]))] s.heap := hP
  have hl := lv_entry ([.ref h0, .int p0]) (n := 2) (Nat.le_of_ble_eq_true rfl)
  rw [lg_entry_eq]
  generalize (lg_sl ([.ref h0, .int p0]) ++ List.replicate (2 - (lg_sl ([.ref h0, .int p0])).length) Slot.unset).toArray = ls at hl ⊢
  have hl : lv_has ls 2 [(0, .ref h0), (1, .int p0)] := hl
  refine lv_iload_n hx hb dX1_hasPlace_0 rfl (lv_at hl 1 rfl) ?_
  refine lv_if_lt (tgt := 16) hx hb dX1_hasPlace_1 (by decide) (fun c_1 => ?_) (fun c_1 => ?_)
  · refine lv_iconst (v := 0) hx hb dX1_hasPlace_16 (by decide) ?_
    refine W.widen (k := 0) (n := 0) (Nat.le_of_ble_eq_true rfl) (Nat.le_of_ble_eq_true rfl) ?_
    exact W.zret (v := 0) hx hb hr rfl (fun t ht hW => ⟨⟨0, (), rfl, rfl, trivial⟩, hS.F ht⟩) hS.2.2 dX1_hasPlace_17
  · refine lv_iload_n hx hb dX1_hasPlace_4 rfl (lv_at hl 1 rfl) ?_
    refine lv_aload_n hx hb dX1_hasPlace_5 rfl (lv_at hl 0 rfl) ?_
    have hPc := hP.sub (ws' := [(h0, .inr (6, [.ref hj, .ref hpr, .ref hqd, .int 0, .int 0, .int 1]))]) [0] rfl
    have hDc := hD.sub (ws' := [(h0, .inr (6, [.ref hj, .ref hpr, .ref hqd, .int 0, .int 0, .int 1]))]) [0] (by decide) rfl
    have hKc := hK.sub (tys' := []) [] rfl
    have hFc : ∀ q : Nat, s.heap.size ≤ q → A q := fun q h => hA q (Nat.le_trans hS.1 h)
    refine va_calli (va_runV (As := []) (rest := [.int p0]) ⟨hx, hb, hml, hown, hts⟩ (c_X1_placeCount l dC dI e0 h0 hj hpr hqd s.heap.size) (cwV 0 hts (goodIn_sub (fun _ h9 => List.mem_cons_of_mem _ (List.mem_append_right _ (h9))) (by decide +kernel)) rfl rfl rfl (by decide +kernel) ⟨(Nat.le_of_ble_eq_true rfl), (Nat.le_of_ble_eq_true rfl)⟩) ⟨fz_blind, va_recv hKc hPc (ci := 6) (q0 := 0) rfl rfl, fz_pre hPc hKc hDc hAm hS hFc⟩ rfl rfl hl.1 rfl (lv_room (Nat.le_of_ble_eq_true rfl)) dX1_hasPlace_6 ⟨(Nat.le_of_ble_eq_true rfl), (Nat.le_of_ble_eq_true rfl)⟩) hS (fun q _ h => hFc q h) hFc (fun r u t H1 locs ht hvm hw hB hz1 hk1 hS => ?_)
    obtain rfl := hw
    have hP := fz_keep hP hk1
    generalize H1 = H at hP hS ⊢
    have hP : va_P (dC, dI) vwCl [(h0, .inr (6, [.ref hj, .ref hpr, .ref hqd, .int 0, .int 0, .int 1]))] H := hP
    refine W.widen (k := 0) (n := 0) (Nat.le_of_ble_eq_true rfl) (Nat.le_of_ble_eq_true rfl) ?_
    refine lv_icmp_ge (tgt := 16) hx hb dX1_hasPlace_9 (by decide) (fun _ => ?_) (fun c_9 => absurd (by first | (exact absurd ‹_› (by decide)) | assumption | (apply fz_a1; assumption) | (apply fz_a2; assumption) | (apply fz_a3; assumption) | (apply fz_a4; assumption) | decide) c_9)
    refine lv_iconst (v := 0) hx hb dX1_hasPlace_16 (by decide) ?_
    refine W.widen (k := 0) (n := 0) (Nat.le_of_ble_eq_true rfl) (Nat.le_of_ble_eq_true rfl) ?_
    exact W.zret (v := 0) hx hb hr rfl (fun t ht hW => ⟨⟨0, (), rfl, rfl, trivial⟩, hS.F ht⟩) hS.2.2 dX1_hasPlace_17
def v_c_X1_jointAt : List Cond := .code yX1_jointAt cX1_jointAt 2 (some (.object "VoussoirYard$Joint")) :: ([.fieldLink RX1 29 "VoussoirYard$Drawing" "count" "I"] ++ (wsX10))
set_option maxRecDepth 20000 in
theorem i_c_X1_jointAt : ∀ w ∈ v_c_X1_jointAt, w ∈ lw_tbl := List.forall_mem_cons.mpr ⟨List.mem_of_getElem? (i := 348) (by decide +kernel), List.forall_mem_append.mpr ⟨List.forall_mem_cons.mpr ⟨List.mem_of_getElem? (i := 151) (by decide +kernel), fun _ h => absurd h List.not_mem_nil⟩, inX1⟩⟩
set_option maxHeartbeats 4000000 in
set_option maxRecDepth 100000 in
theorem c_X1_jointAt (l : Launch) (dC : Nat → ClassId) (dI : Nat → Nat → Nat) (e0 : Nat) (h0 : Nat) (p0 : Int32) (hj hpr hqd : Nat) (sz : Nat) : Met l yX1_jointAt v_c_X1_jointAt ({ frames := 0, cells := 0, slots := 0, locals := 0 }) (fz_P (dC, dI) e0 [(h0, .inr (6, [.ref hj, .ref hpr, .ref hqd, .int 0, .int 0, .int 1]))] [] sz (fun q : Nat => sz ≤ q) [.ref h0, .int p0]) (va_Qq (fun (r : Option Nat) (u : Unit) => r = none) (fun (u : Unit) (t : State) => True) (fun q : Nat => sz ≤ q)) 0 0 (fun q : Nat => sz ≤ q) := by
  refine Met.ofW (cc := cX1_jointAt) (maxL := 2) (ret := (some (.object "VoussoirYard$Joint"))) (by decide) rfl ?_
  intro p e s m args below meth c s₁ B hml hv
  obtain ⟨rfl, hsz, hP, hK, hD0, hAm⟩ := hv
  have hx := B.exec
  have hb := B.bytes
  have hr := B.returns
  have hts := atoms_spec (ws := v_c_X1_jointAt) B.pre
  have hown : s.vm.findClass RX1 = some m.cls := findClass_of_methodNamed B.named
  have hlocks := B.notSynchronized
  subst hsz
  have hD := hD0
  generalize hAe : (fun q : Nat => s.heap.size ≤ q) = A at hAm ⊢
  have hA : ∀ q : Nat, s.heap.size ≤ q → A q := fun q h => by rw [← hAe]; exact h
  have hS : va_S A s.heap s.heap [] := va_S.rf
  have hP : va_P (dC, dI) vwCl [(h0, .inr (6, [.ref hj, .ref hpr, .ref hqd, .int 0, .int 0, .int 1]))] s.heap := hP
  have hl := lv_entry ([.ref h0, .int p0]) (n := 2) (Nat.le_of_ble_eq_true rfl)
  rw [lg_entry_eq]
  generalize (lg_sl ([.ref h0, .int p0]) ++ List.replicate (2 - (lg_sl ([.ref h0, .int p0])).length) Slot.unset).toArray = ls at hl ⊢
  have hl : lv_has ls 2 [(0, .ref h0), (1, .int p0)] := hl
  refine lv_iload_n hx hb dX1_jointAt_0 rfl (lv_at hl 1 rfl) ?_
  refine lv_if_lt (tgt := 30) hx hb dX1_jointAt_1 (by decide) (fun c_1 => ?_) (fun c_1 => ?_)
  · refine lv_null hx hb dX1_jointAt_30 ?_
    refine W.widen (k := 0) (n := 0) (Nat.le_of_ble_eq_true rfl) (Nat.le_of_ble_eq_true rfl) ?_
    exact W.aret (v := .null) hx hb hr (Or.inl ⟨_, rfl⟩) (Or.inl rfl) (fun t ht hW => ⟨⟨none, (), rfl, rfl, trivial⟩, hS.F ht⟩) hS.2.2 dX1_jointAt_31
  · refine lv_iload_n hx hb dX1_jointAt_4 rfl (lv_at hl 1 rfl) ?_
    refine lv_aload_n hx hb dX1_jointAt_5 rfl (lv_at hl 0 rfl) ?_
    refine va_get (D := (dC, dI)) (ci := 6) (v := .int 0) (C := RX1) (T := TX1) (N := 6) hx hb hts (fun _ h9 => List.mem_cons_of_mem _ (List.mem_append_right _ (h9))) hown hK hP 0 rfl rfl 3 (by decide) (hts _ (List.mem_cons_of_mem _ (List.mem_append_left _ (List.mem_of_getElem? (i := 0) rfl)))) (fun _ h9 => h9) rfl dX1_jointAt_6 ?_
    refine lv_icmp_ge (tgt := 30) hx hb dX1_jointAt_9 (by decide) (fun _ => ?_) (fun c_9 => absurd (by first | (exact absurd ‹_› (by decide)) | assumption | (apply fz_a1; assumption) | (apply fz_a2; assumption) | (apply fz_a3; assumption) | (apply fz_a4; assumption) | decide) c_9)
    refine lv_null hx hb dX1_jointAt_30 ?_
    refine W.widen (k := 0) (n := 0) (Nat.le_of_ble_eq_true rfl) (Nat.le_of_ble_eq_true rfl) ?_
    exact W.aret (v := .null) hx hb hr (Or.inl ⟨_, rfl⟩) (Or.inl rfl) (fun t ht hW => ⟨⟨none, (), rfl, rfl, trivial⟩, hS.F ht⟩) hS.2.2 dX1_jointAt_31
def v_c_X1_jointAt0 : List Cond := .code yX1_jointAt cX1_jointAt 2 (some (.object "VoussoirYard$Joint")) :: ([.fieldLink RX1 29 "VoussoirYard$Drawing" "count" "I", .fieldLink RX1 11 "VoussoirYard$Drawing" "joints" "[LVoussoirYard$Joint;"] ++ (wsX10))
set_option maxRecDepth 20000 in
theorem i_c_X1_jointAt0 : ∀ w ∈ v_c_X1_jointAt0, w ∈ lw_tbl := List.forall_mem_cons.mpr ⟨List.mem_of_getElem? (i := 348) (by decide +kernel), List.forall_mem_append.mpr ⟨List.forall_mem_cons.mpr ⟨List.mem_of_getElem? (i := 151) (by decide +kernel), List.forall_mem_cons.mpr ⟨List.mem_of_getElem? (i := 148) (by decide +kernel), fun _ h => absurd h List.not_mem_nil⟩⟩, inX1⟩⟩
set_option maxHeartbeats 4000000 in
set_option maxRecDepth 100000 in
theorem c_X1_jointAt0 (l : Launch) (dC : Nat → ClassId) (dI : Nat → Nat → Nat) (e0 : Nat) (h0 hj hpr hqd : Nat) (cR : ClassId) (hj0 : Nat) (fj : Nat → Option Nat) (sz : Nat) (hj0f : fj 0 = some hj0) : Met l yX1_jointAt v_c_X1_jointAt0 ({ frames := 0, cells := 0, slots := 0, locals := 0 }) (fz_P (dC, dI) e0 [(h0, .inr (6, [.ref hj, .ref hpr, .ref hqd, .int 1, .int 0, .int 1])), (hj, .inl (cR, 8, .inr (.inr (.inr (.inr fj)))))] [(cR, .object RX2)] sz (fun q : Nat => sz ≤ q) [.ref h0, .int 0]) (va_Qr (fun (u : Unit) => True) (fun (u : Unit) (ra : Nat) (t : State) => ra = hj0) (fun q : Nat => sz ≤ q)) 0 0 (fun q : Nat => sz ≤ q) := by
  refine Met.ofW (cc := cX1_jointAt) (maxL := 2) (ret := (some (.object "VoussoirYard$Joint"))) (by decide) rfl ?_
  intro p e s m args below meth c s₁ B hml hv
  obtain ⟨rfl, hsz, hP, hK, hD0, hAm⟩ := hv
  have hx := B.exec
  have hb := B.bytes
  have hr := B.returns
  have hts := atoms_spec (ws := v_c_X1_jointAt0) B.pre
  have hown : s.vm.findClass RX1 = some m.cls := findClass_of_methodNamed B.named
  have hlocks := B.notSynchronized
  subst hsz
  have hD := hD0
  generalize hAe : (fun q : Nat => s.heap.size ≤ q) = A at hAm ⊢
  have hA : ∀ q : Nat, s.heap.size ≤ q → A q := fun q h => by rw [← hAe]; exact h
  have hS : va_S A s.heap s.heap [] := va_S.rf
  have hP : va_P (dC, dI) vwCl [(h0, .inr (6, [.ref hj, .ref hpr, .ref hqd, .int 1, .int 0, .int 1])), (hj, .inl (cR, 8, .inr (.inr (.inr (.inr fj)))))] s.heap := hP
  have hl := lv_entry ([.ref h0, .int 0]) (n := 2) (Nat.le_of_ble_eq_true rfl)
  rw [lg_entry_eq]
  generalize (lg_sl ([.ref h0, .int 0]) ++ List.replicate (2 - (lg_sl ([.ref h0, .int 0])).length) Slot.unset).toArray = ls at hl ⊢
  have hl : lv_has ls 2 [(0, .ref h0), (1, .int 0)] := hl
  refine lv_iload_n hx hb dX1_jointAt_0 rfl (lv_at hl 1 rfl) ?_
  refine lv_if_lt (tgt := 30) hx hb dX1_jointAt_1 (by decide) (fun c_9 => absurd c_9 (by decide)) (fun _ => ?_)
  refine lv_iload_n hx hb dX1_jointAt_4 rfl (lv_at hl 1 rfl) ?_
  refine lv_aload_n hx hb dX1_jointAt_5 rfl (lv_at hl 0 rfl) ?_
  refine va_get (D := (dC, dI)) (ci := 6) (v := .int 1) (C := RX1) (T := TX1) (N := 6) hx hb hts (fun _ h9 => List.mem_cons_of_mem _ (List.mem_append_right _ (h9))) hown hK hP 0 rfl rfl 3 (by decide) (hts _ (List.mem_cons_of_mem _ (List.mem_append_left _ (List.mem_of_getElem? (i := 0) rfl)))) (fun _ h9 => h9) rfl dX1_jointAt_6 ?_
  refine lv_icmp_ge (tgt := 30) hx hb dX1_jointAt_9 (by decide) (fun c_9 => absurd c_9 (by decide)) (fun _ => ?_)
  refine lv_iload_n hx hb dX1_jointAt_12 rfl (lv_at hl 1 rfl) ?_
  refine lv_aload_n hx hb dX1_jointAt_13 rfl (lv_at hl 0 rfl) ?_
  refine va_get (D := (dC, dI)) (ci := 6) (v := .ref hj) (C := RX1) (T := TX1) (N := 6) hx hb hts (fun _ h9 => List.mem_cons_of_mem _ (List.mem_append_right _ (h9))) hown hK hP 0 rfl rfl 0 (by decide) (hts _ (List.mem_cons_of_mem _ (List.mem_append_left _ (List.mem_of_getElem? (i := 1) rfl)))) (fun _ h9 => h9) rfl dX1_jointAt_14 ?_
  refine va_alen hx hb hK hP 1 0 rfl rfl (v := 8) rfl dX1_jointAt_17 ?_
  refine lv_icmp_ge (tgt := 30) hx hb dX1_jointAt_18 (by decide) (fun c_9 => absurd c_9 (by decide)) (fun _ => ?_)
  refine lv_aload_n hx hb dX1_jointAt_21 rfl (lv_at hl 0 rfl) ?_
  refine va_get (D := (dC, dI)) (ci := 6) (v := .ref hj) (C := RX1) (T := TX1) (N := 6) hx hb hts (fun _ h9 => List.mem_cons_of_mem _ (List.mem_append_right _ (h9))) hown hK hP 0 rfl rfl 0 (by decide) (hts _ (List.mem_cons_of_mem _ (List.mem_append_left _ (List.mem_of_getElem? (i := 1) rfl)))) (fun _ h9 => h9) rfl dX1_jointAt_22 ?_
  refine lv_iload_n hx hb dX1_jointAt_25 rfl (lv_at hl 1 rfl) ?_
  refine va_aldq hx hb hK hP 1 0 rfl rfl (fz_il (by decide)) dX1_jointAt_26 ?_
  refine W.eq (g2 := F0 m 27 ls [.ref hj0]) (by rw [show (0 : Int32).toNatClampNeg = 0 from by decide, hj0f]; rfl) ?_
  refine lv_goto (tgt := 31) hx hb dX1_jointAt_27 (by decide) ?_
  refine W.widen (k := 0) (n := 0) (Nat.le_of_ble_eq_true rfl) (Nat.le_of_ble_eq_true rfl) ?_
  exact W.aret (v := .ref hj0) hx hb hr (Or.inl ⟨_, rfl⟩) (Or.inr ⟨_, rfl⟩) (fun t ht hW => ⟨⟨(), hj0, rfl, trivial, rfl⟩, hS.F ht⟩) hS.2.2 dX1_jointAt_31
def v_c_X1_quadOf : List Cond := .code yX1_quadOf cX1_quadOf 4 (some (.object "VoussoirYard$Quad")) :: ([] ++ (wsV RX1 57 RX1 yX1_jointAt v_c_X1_jointAt))
set_option maxRecDepth 20000 in
theorem i_c_X1_quadOf : ∀ w ∈ v_c_X1_quadOf, w ∈ lw_tbl := List.forall_mem_cons.mpr ⟨List.mem_of_getElem? (i := 344) (by decide +kernel), List.forall_mem_append.mpr ⟨fun _ h => absurd h List.not_mem_nil, (by unfold wsV; exact List.forall_mem_append.mpr ⟨List.forall_mem_cons.mpr ⟨List.mem_of_getElem? (i := 345) (by decide +kernel), List.forall_mem_cons.mpr ⟨List.mem_of_getElem? (i := 346) (by decide +kernel), List.forall_mem_cons.mpr ⟨List.mem_of_getElem? (i := 347) (by decide +kernel), List.forall_mem_cons.mpr ⟨List.mem_of_getElem? (i := 50) (by decide +kernel), fun _ h => absurd h List.not_mem_nil⟩⟩⟩⟩, i_c_X1_jointAt⟩)⟩⟩
set_option maxHeartbeats 4000000 in
set_option maxRecDepth 100000 in
theorem c_X1_quadOf (l : Launch) (dC : Nat → ClassId) (dI : Nat → Nat → Nat) (e0 : Nat) (h0 : Nat) (p0 : Int32) (hj hpr hqd : Nat) (sz : Nat) : Met l yX1_quadOf v_c_X1_quadOf ({ frames := 1, cells := 0, slots := 0, locals := 21 }) (fz_P (dC, dI) e0 [(h0, .inr (6, [.ref hj, .ref hpr, .ref hqd, .int 0, .int 0, .int 1]))] [] sz (fun q : Nat => sz ≤ q) [.ref h0, .int p0]) (va_Qq (fun (r : Option Nat) (u : Unit) => r = none) (fun (u : Unit) (t : State) => True) (fun q : Nat => sz ≤ q)) 0 0 (fun q : Nat => sz ≤ q) := by
  refine Met.ofW (cc := cX1_quadOf) (maxL := 4) (ret := (some (.object "VoussoirYard$Quad"))) (by decide) rfl ?_
  intro p e s m args below meth c s₁ B hml hv
  obtain ⟨rfl, hsz, hP, hK, hD0, hAm⟩ := hv
  have hx := B.exec
  have hb := B.bytes
  have hr := B.returns
  have hts := atoms_spec (ws := v_c_X1_quadOf) B.pre
  have hown : s.vm.findClass RX1 = some m.cls := findClass_of_methodNamed B.named
  have hlocks := B.notSynchronized
  subst hsz
  have hD := hD0
  generalize hAe : (fun q : Nat => s.heap.size ≤ q) = A at hAm ⊢
  have hA : ∀ q : Nat, s.heap.size ≤ q → A q := fun q h => by rw [← hAe]; exact h
  have hS : va_S A s.heap s.heap [] := va_S.rf
  have hP : va_P (dC, dI) vwCl [(h0, .inr (6, [.ref hj, .ref hpr, .ref hqd, .int 0, .int 0, .int 1]))] s.heap := hP
  have hl := lv_entry ([.ref h0, .int p0]) (n := 4) (Nat.le_of_ble_eq_true rfl)
  rw [lg_entry_eq]
  generalize (lg_sl ([.ref h0, .int p0]) ++ List.replicate (4 - (lg_sl ([.ref h0, .int p0])).length) Slot.unset).toArray = ls at hl ⊢
  have hl : lv_has ls 4 [(0, .ref h0), (1, .int p0)] := hl
  refine lv_aload_n hx hb dX1_quadOf_0 rfl (lv_at hl 0 rfl) ?_
  refine lv_iload_n hx hb dX1_quadOf_1 rfl (lv_at hl 1 rfl) ?_
  have hPc := hP.sub (ws' := [(h0, .inr (6, [.ref hj, .ref hpr, .ref hqd, .int 0, .int 0, .int 1]))]) [0] rfl
  have hDc := hD.sub (ws' := [(h0, .inr (6, [.ref hj, .ref hpr, .ref hqd, .int 0, .int 0, .int 1]))]) [0] (by decide) rfl
  have hKc := hK.sub (tys' := []) [] rfl
  have hFc : ∀ q : Nat, s.heap.size ≤ q → A q := fun q h => hA q (Nat.le_trans hS.1 h)
  refine va_callq (va_runV (As := [.int p0]) (rest := []) ⟨hx, hb, hml, hown, hts⟩ (c_X1_jointAt l dC dI e0 h0 p0 hj hpr hqd s.heap.size) (cwV 1 hts (goodIn_sub (fun _ h9 => List.mem_cons_of_mem _ (List.mem_append_right _ (h9))) (by decide +kernel)) rfl rfl rfl (by decide +kernel) ⟨(Nat.le_of_ble_eq_true rfl), (Nat.le_of_ble_eq_true rfl)⟩) ⟨fz_blind, va_recv hKc hPc (ci := 6) (q0 := 0) rfl rfl, fz_pre hPc hKc hDc hAm hS hFc⟩ rfl rfl hl.1 rfl (lv_room (Nat.le_of_ble_eq_true rfl)) dX1_quadOf_2 ⟨(Nat.le_of_ble_eq_true rfl), (Nat.le_of_ble_eq_true rfl)⟩) hS (fun q _ h => hFc q h) hFc (fun r u t H1 locs ht hvm hw hB hz1 hk1 hS => ?_)
  obtain rfl := hw
  have hP := fz_keep hP hk1
  generalize H1 = H at hP hS ⊢
  have hP : va_P (dC, dI) vwCl [(h0, .inr (6, [.ref hj, .ref hpr, .ref hqd, .int 0, .int 0, .int 1]))] H := hP
  refine W.widen (k := 0) (n := 0) (Nat.le_of_ble_eq_true rfl) (Nat.le_of_ble_eq_true rfl) ?_
  refine lv_astore_nN (lv' := [(2, .null), (0, .ref h0), (1, .int p0)]) hx hb dX1_quadOf_5 rfl hl (by decide) rfl (fun ls hl => ?_)
  refine lv_aload_nN hx hb dX1_quadOf_6 rfl (lv_at hl 0 rfl) ?_
  refine lv_ifnonnullN hx hb dX1_quadOf_7 ?_
  refine lv_null hx hb dX1_quadOf_10 ?_
  refine lv_goto (tgt := 21) hx hb dX1_quadOf_11 (by decide) ?_
  refine lv_astore_nN (lv' := [(3, .null), (2, .null), (0, .ref h0), (1, .int p0)]) hx hb dX1_quadOf_21 rfl hl (by decide) rfl (fun ls hl => ?_)
  refine lv_aload_nN hx hb dX1_quadOf_22 rfl (lv_at hl 1 rfl) ?_
  refine lv_ifnullN (tgt := 30) hx hb dX1_quadOf_23 (by decide) ?_
  refine lv_null hx hb dX1_quadOf_30 ?_
  refine W.widen (k := 0) (n := 0) (Nat.le_of_ble_eq_true rfl) (Nat.le_of_ble_eq_true rfl) ?_
  exact W.aret (v := .null) hx hb hr (Or.inl ⟨_, rfl⟩) (Or.inl rfl) (fun t ht hW => ⟨⟨none, (), rfl, rfl, trivial⟩, hS.F ht⟩) hS.2.2 dX1_quadOf_31
def v_c_X1_propose : List Cond := .code yX1_propose cX1_propose 5 none :: ([.fieldLink RX1 18 "VoussoirYard$Drawing" "proposed" "LVoussoirYard$Joint;"] ++ (wsX10 ++ (wsV RX1 49 RX2 yX2_moveTo v_c_X2_moveTo)))
set_option maxRecDepth 20000 in
theorem i_c_X1_propose : ∀ w ∈ v_c_X1_propose, w ∈ lw_tbl := List.forall_mem_cons.mpr ⟨List.mem_of_getElem? (i := 512) (by decide +kernel), List.forall_mem_append.mpr ⟨List.forall_mem_cons.mpr ⟨List.mem_of_getElem? (i := 149) (by decide +kernel), fun _ h => absurd h List.not_mem_nil⟩, List.forall_mem_append.mpr ⟨inX1, (by unfold wsV; exact List.forall_mem_append.mpr ⟨List.forall_mem_cons.mpr ⟨List.mem_of_getElem? (i := 513) (by decide +kernel), List.forall_mem_cons.mpr ⟨List.mem_of_getElem? (i := 514) (by decide +kernel), List.forall_mem_cons.mpr ⟨List.mem_of_getElem? (i := 515) (by decide +kernel), List.forall_mem_cons.mpr ⟨List.mem_of_getElem? (i := 51) (by decide +kernel), fun _ h => absurd h List.not_mem_nil⟩⟩⟩⟩, i_c_X2_moveTo⟩)⟩⟩⟩
set_option maxHeartbeats 4000000 in
set_option maxRecDepth 100000 in
theorem c_X1_propose (l : Launch) (dC : Nat → ClassId) (dI : Nat → Nat → Nat) (e0 : Nat) (h0 : Nat) (p0 p1 p2 p3 : Int32) (hj hpr hqd : Nat) (x0 x1 x2 x3 : Int32) (sz : Nat) : Met l yX1_propose v_c_X1_propose ({ frames := 1, cells := 0, slots := 0, locals := 24 }) (fz_P (dC, dI) e0 [(h0, .inr (6, [.ref hj, .ref hpr, .ref hqd, .int 0, .int 0, .int 1])), (hpr, .inr (7, [.int x0, .int x1, .int x2, .int x3]))] [] sz (va_A [(h0, .inr (6, [.ref hj, .ref hpr, .ref hqd, .int 0, .int 0, .int 1])), (hpr, .inr (7, [.int x0, .int x1, .int x2, .int x3]))] sz) [.ref h0, .int p0, .int p1, .int p2, .int p3]) (va_Qv (fun (u : Unit) => True) (fun (u : Unit) (t : State) => va_P (dC, dI) vwCl [(h0, .inr (6, [.ref hj, .ref hpr, .ref hqd, .int 0, .int 0, .int 1])), (hpr, .inr (7, [.int p0, .int p1, .int p2, .int p3]))] t.heap ∧ va_K (dC, dI) vwCl [] t ∧ va_D (va_A [(h0, .inr (6, [.ref hj, .ref hpr, .ref hqd, .int 0, .int 0, .int 1])), (hpr, .inr (7, [.int x0, .int x1, .int x2, .int x3]))] sz) [(h0, .inr (6, [.ref hj, .ref hpr, .ref hqd, .int 0, .int 0, .int 1])), (hpr, .inr (7, [.int p0, .int p1, .int p2, .int p3]))]) (va_A [(h0, .inr (6, [.ref hj, .ref hpr, .ref hqd, .int 0, .int 0, .int 1])), (hpr, .inr (7, [.int x0, .int x1, .int x2, .int x3]))] sz)) 0 0 (va_A [(h0, .inr (6, [.ref hj, .ref hpr, .ref hqd, .int 0, .int 0, .int 1])), (hpr, .inr (7, [.int x0, .int x1, .int x2, .int x3]))] sz) := by
  refine Met.ofW (cc := cX1_propose) (maxL := 5) (ret := none) (by decide) rfl ?_
  intro p e s m args below meth c s₁ B hml hv
  obtain ⟨rfl, hsz, hP, hK, hD0, hAm⟩ := hv
  have hx := B.exec
  have hb := B.bytes
  have hr := B.returns
  have hts := atoms_spec (ws := v_c_X1_propose) B.pre
  have hown : s.vm.findClass RX1 = some m.cls := findClass_of_methodNamed B.named
  have hlocks := B.notSynchronized
  subst hsz
  have hD := hD0.self (sz := s.heap.size)
  generalize hAe : va_A [(h0, .inr (6, [.ref hj, .ref hpr, .ref hqd, .int 0, .int 0, .int 1])), (hpr, .inr (7, [.int x0, .int x1, .int x2, .int x3]))] s.heap.size = A at hD hAm ⊢
  have hA : ∀ q : Nat, s.heap.size ≤ q → A q := fun q h => by rw [← hAe]; exact Or.inr h
  have hS : va_S A s.heap s.heap [] := va_S.rf
  have hP : va_P (dC, dI) vwCl [(h0, .inr (6, [.ref hj, .ref hpr, .ref hqd, .int 0, .int 0, .int 1])), (hpr, .inr (7, [.int x0, .int x1, .int x2, .int x3]))] s.heap := hP
  have hl := lv_entry ([.ref h0, .int p0, .int p1, .int p2, .int p3]) (n := 5) (Nat.le_of_ble_eq_true rfl)
  rw [lg_entry_eq]
  generalize (lg_sl ([.ref h0, .int p0, .int p1, .int p2, .int p3]) ++ List.replicate (5 - (lg_sl ([.ref h0, .int p0, .int p1, .int p2, .int p3])).length) Slot.unset).toArray = ls at hl ⊢
  have hl : lv_has ls 5 [(0, .ref h0), (1, .int p0), (2, .int p1), (3, .int p2), (4, .int p3)] := hl
  refine lv_aload_n hx hb dX1_propose_0 rfl (lv_at hl 0 rfl) ?_
  refine va_get (D := (dC, dI)) (ci := 6) (v := .ref hpr) (C := RX1) (T := TX1) (N := 6) hx hb hts (fun _ h9 => List.mem_cons_of_mem _ (List.mem_append_right _ (List.mem_append_left _ h9))) hown hK hP 0 rfl rfl 1 (by decide) (hts _ (List.mem_cons_of_mem _ (List.mem_append_left _ (List.mem_of_getElem? (i := 0) rfl)))) (fun _ h9 => h9) rfl dX1_propose_1 ?_
  refine lv_iload_n hx hb dX1_propose_4 rfl (lv_at hl 1 rfl) ?_
  refine lv_iload_n hx hb dX1_propose_5 rfl (lv_at hl 2 rfl) ?_
  refine lv_iload_n hx hb dX1_propose_6 rfl (lv_at hl 3 rfl) ?_
  refine lv_iload hx hb dX1_propose_7 (lv_at hl 4 rfl) ?_
  have hPc := hP.sub (ws' := [(hpr, .inr (7, [.int x0, .int x1, .int x2, .int x3]))]) [1] rfl
  have hDc := hD.sub (ws' := [(hpr, .inr (7, [.int x0, .int x1, .int x2, .int x3]))]) [1] (by decide) rfl
  have hKc := hK.sub (tys' := []) [] rfl
  have hFc := va_free (wc := [(hpr, .inr (7, [.int x0, .int x1, .int x2, .int x3]))]) hD hS hA [1] rfl
  refine va_callv (va_runV (As := [.int p0, .int p1, .int p2, .int p3]) (rest := []) ⟨hx, hb, hml, hown, hts⟩ (c_X2_moveTo l dC dI e0 hpr p0 p1 p2 p3 x0 x1 x2 x3 s.heap.size) (cwV 4 hts (goodIn_sub (fun _ h9 => List.mem_cons_of_mem _ (List.mem_append_right _ (List.mem_append_right _ h9))) (by decide +kernel)) rfl rfl rfl (by decide +kernel) ⟨(Nat.le_of_ble_eq_true rfl), (Nat.le_of_ble_eq_true rfl)⟩) ⟨fz_blind, va_recv hKc hPc (ci := 7) (q0 := 0) rfl rfl, fz_pre hPc hKc hDc hAm hS hFc⟩ rfl rfl hl.1 rfl (lv_room (Nat.le_of_ble_eq_true rfl)) dX1_propose_9 ⟨(Nat.le_of_ble_eq_true rfl), (Nat.le_of_ble_eq_true rfl)⟩) hS (fun q _ h => hFc q h) hFc (fun u t H1 locs ht hvm hw hB hz1 hk1 hS => ?_)
  obtain ⟨hP1, hK1, hD1⟩ := hB
  rw [ht] at hP1
  have hK1 := va_K.moved hvm.symm hK1
  obtain ⟨hP, hD⟩ := va_join (wr := [(h0, .inr (6, [.ref hj, .ref hpr, .ref hqd, .int 0, .int 0, .int 1]))]) (w1 := [(hpr, .inr (7, [.int p0, .int p1, .int p2, .int p3]))]) hP hD [1] [0] rfl rfl (by decide) (by decide) hk1 hFc hP1 hD1
  generalize H1 = H at hP hS ⊢
  have hP : va_P (dC, dI) vwCl [(h0, .inr (6, [.ref hj, .ref hpr, .ref hqd, .int 0, .int 0, .int 1])), (hpr, .inr (7, [.int p0, .int p1, .int p2, .int p3]))] H := hP
  have hD : va_D A [(h0, .inr (6, [.ref hj, .ref hpr, .ref hqd, .int 0, .int 0, .int 1])), (hpr, .inr (7, [.int p0, .int p1, .int p2, .int p3]))] := hD
  have hK : va_K (dC, dI) vwCl [] s := hK
  refine W.widen (k := 0) (n := 0) (Nat.le_of_ble_eq_true rfl) (Nat.le_of_ble_eq_true rfl) ?_
  have hP9 := hP.sub (ws' := [(h0, .inr (6, [.ref hj, .ref hpr, .ref hqd, .int 0, .int 0, .int 1])), (hpr, .inr (7, [.int p0, .int p1, .int p2, .int p3]))]) [0, 1] rfl
  have hD9 := hD.sub (ws' := [(h0, .inr (6, [.ref hj, .ref hpr, .ref hqd, .int 0, .int 0, .int 1])), (hpr, .inr (7, [.int p0, .int p1, .int p2, .int p3]))]) [0, 1] (by decide) rfl
  have hK9 := hK.sub (tys' := []) [] rfl
  refine W.widen (k := 0) (n := 0) (Nat.le_of_ble_eq_true rfl) (Nat.le_of_ble_eq_true rfl) ?_
  exact W.vret hx hb hr (fun t ht hW => ⟨⟨(), rfl, trivial, ⟨by rw [ht]; exact hP9, va_K.moved hW.alike hK9, hD9⟩⟩, hS.F ht⟩) hS.2.2 dX1_propose_12
def v_c_X1_wouldTurnLeftA : List Cond := .code yX1_wouldTurnLeft cX1_wouldTurnLeft 3 (some .boolean) :: ([] ++ (([] : List Cond)))
set_option maxRecDepth 20000 in
theorem i_c_X1_wouldTurnLeftA : ∀ w ∈ v_c_X1_wouldTurnLeftA, w ∈ lw_tbl := List.forall_mem_cons.mpr ⟨List.mem_of_getElem? (i := 528) (by decide +kernel), List.forall_mem_append.mpr ⟨fun _ h => absurd h List.not_mem_nil, fun _ h => absurd h List.not_mem_nil⟩⟩
set_option maxHeartbeats 4000000 in
set_option maxRecDepth 100000 in
theorem c_X1_wouldTurnLeftA (l : Launch) (dC : Nat → ClassId) (dI : Nat → Nat → Nat) (e0 : Nat) (h0 h1 hj hpr hqd : Nat) (sz : Nat) : Met l yX1_wouldTurnLeft v_c_X1_wouldTurnLeftA ({ frames := 0, cells := 0, slots := 0, locals := 0 }) (fz_P (dC, dI) e0 [(h0, .inr (6, [.ref hj, .ref hpr, .ref hqd, .int 0, .int 0, .int 1]))] [] sz (fun q : Nat => sz ≤ q) [.ref h0, .null, .ref h1]) (va_Qi (fun (r : Int32) (u : Unit) => r = 1) (fun (u : Unit) (t : State) => True) (fun q : Nat => sz ≤ q)) 0 0 (fun q : Nat => sz ≤ q) := by
  refine Met.ofW (cc := cX1_wouldTurnLeft) (maxL := 3) (ret := (some .boolean)) (by decide) rfl ?_
  intro p e s m args below meth c s₁ B hml hv
  obtain ⟨rfl, hsz, hP, hK, hD0, hAm⟩ := hv
  have hx := B.exec
  have hb := B.bytes
  have hr := B.returns
  have hts := atoms_spec (ws := v_c_X1_wouldTurnLeftA) B.pre
  have hown : s.vm.findClass RX1 = some m.cls := findClass_of_methodNamed B.named
  have hlocks := B.notSynchronized
  subst hsz
  have hD := hD0
  generalize hAe : (fun q : Nat => s.heap.size ≤ q) = A at hAm ⊢
  have hA : ∀ q : Nat, s.heap.size ≤ q → A q := fun q h => by rw [← hAe]; exact h
  have hS : va_S A s.heap s.heap [] := va_S.rf
  have hP : va_P (dC, dI) vwCl [(h0, .inr (6, [.ref hj, .ref hpr, .ref hqd, .int 0, .int 0, .int 1]))] s.heap := hP
  have hl := lv_entry ([.ref h0, .null, .ref h1]) (n := 3) (Nat.le_of_ble_eq_true rfl)
  rw [lg_entry_eq]
  generalize (lg_sl ([.ref h0, .null, .ref h1]) ++ List.replicate (3 - (lg_sl ([.ref h0, .null, .ref h1])).length) Slot.unset).toArray = ls at hl ⊢
  have hl : lv_has ls 3 [(0, .ref h0), (1, .null), (2, .ref h1)] := hl
  refine lv_aload_nN hx hb dX1_wouldTurnLeft_0 rfl (lv_at hl 1 rfl) ?_
  refine lv_ifnullN (tgt := 8) hx hb dX1_wouldTurnLeft_1 (by decide) ?_
  refine lv_iconst (v := 1) hx hb dX1_wouldTurnLeft_8 (by decide) ?_
  refine W.widen (k := 0) (n := 0) (Nat.le_of_ble_eq_true rfl) (Nat.le_of_ble_eq_true rfl) ?_
  exact W.zret (v := 1) hx hb hr rfl (fun t ht hW => ⟨⟨1, (), rfl, rfl, trivial⟩, hS.F ht⟩) hS.2.2 dX1_wouldTurnLeft_9
def v_c_X1_wouldTurnLeftB : List Cond := .code yX1_wouldTurnLeft cX1_wouldTurnLeft 3 (some .boolean) :: ([] ++ (([] : List Cond)))
set_option maxRecDepth 20000 in
theorem i_c_X1_wouldTurnLeftB : ∀ w ∈ v_c_X1_wouldTurnLeftB, w ∈ lw_tbl := List.forall_mem_cons.mpr ⟨List.mem_of_getElem? (i := 528) (by decide +kernel), List.forall_mem_append.mpr ⟨fun _ h => absurd h List.not_mem_nil, fun _ h => absurd h List.not_mem_nil⟩⟩
set_option maxHeartbeats 4000000 in
set_option maxRecDepth 100000 in
theorem c_X1_wouldTurnLeftB (l : Launch) (dC : Nat → ClassId) (dI : Nat → Nat → Nat) (e0 : Nat) (h0 h1 hj hpr hqd : Nat) (sz : Nat) : Met l yX1_wouldTurnLeft v_c_X1_wouldTurnLeftB ({ frames := 0, cells := 0, slots := 0, locals := 0 }) (fz_P (dC, dI) e0 [(h0, .inr (6, [.ref hj, .ref hpr, .ref hqd, .int 0, .int 0, .int 1]))] [] sz (fun q : Nat => sz ≤ q) [.ref h0, .ref h1, .null]) (va_Qi (fun (r : Int32) (u : Unit) => r = 1) (fun (u : Unit) (t : State) => True) (fun q : Nat => sz ≤ q)) 0 0 (fun q : Nat => sz ≤ q) := by
  refine Met.ofW (cc := cX1_wouldTurnLeft) (maxL := 3) (ret := (some .boolean)) (by decide) rfl ?_
  intro p e s m args below meth c s₁ B hml hv
  obtain ⟨rfl, hsz, hP, hK, hD0, hAm⟩ := hv
  have hx := B.exec
  have hb := B.bytes
  have hr := B.returns
  have hts := atoms_spec (ws := v_c_X1_wouldTurnLeftB) B.pre
  have hown : s.vm.findClass RX1 = some m.cls := findClass_of_methodNamed B.named
  have hlocks := B.notSynchronized
  subst hsz
  have hD := hD0
  generalize hAe : (fun q : Nat => s.heap.size ≤ q) = A at hAm ⊢
  have hA : ∀ q : Nat, s.heap.size ≤ q → A q := fun q h => by rw [← hAe]; exact h
  have hS : va_S A s.heap s.heap [] := va_S.rf
  have hP : va_P (dC, dI) vwCl [(h0, .inr (6, [.ref hj, .ref hpr, .ref hqd, .int 0, .int 0, .int 1]))] s.heap := hP
  have hl := lv_entry ([.ref h0, .ref h1, .null]) (n := 3) (Nat.le_of_ble_eq_true rfl)
  rw [lg_entry_eq]
  generalize (lg_sl ([.ref h0, .ref h1, .null]) ++ List.replicate (3 - (lg_sl ([.ref h0, .ref h1, .null])).length) Slot.unset).toArray = ls at hl ⊢
  have hl : lv_has ls 3 [(0, .ref h0), (1, .ref h1), (2, .null)] := hl
  refine lv_aload_n hx hb dX1_wouldTurnLeft_0 rfl (lv_at hl 1 rfl) ?_
  refine lv_ifnull hx hb dX1_wouldTurnLeft_1 ?_
  refine lv_aload_nN hx hb dX1_wouldTurnLeft_4 rfl (lv_at hl 2 rfl) ?_
  refine lv_ifnonnullN hx hb dX1_wouldTurnLeft_5 ?_
  refine lv_iconst (v := 1) hx hb dX1_wouldTurnLeft_8 (by decide) ?_
  refine W.widen (k := 0) (n := 0) (Nat.le_of_ble_eq_true rfl) (Nat.le_of_ble_eq_true rfl) ?_
  exact W.zret (v := 1) hx hb hr rfl (fun t ht hW => ⟨⟨1, (), rfl, rfl, trivial⟩, hS.F ht⟩) hS.2.2 dX1_wouldTurnLeft_9
def v_c_X1_allowsProposal : List Cond := .code yX1_allowsProposal cX1_allowsProposal 2 (some .boolean) :: ([.fieldLink RX1 18 "VoussoirYard$Drawing" "proposed" "LVoussoirYard$Joint;"] ++ (wsX10 ++ (wsV RX1 53 RX2 yX2_hasLength v_c_X2_hasLength ++ (wsV RX1 57 RX1 yX1_jointAt v_c_X1_jointAt ++ (wsV RX1 61 RX1 yX1_wouldTurnLeft v_c_X1_wouldTurnLeftA ++ (wsV RX1 61 RX1 yX1_wouldTurnLeft v_c_X1_wouldTurnLeftB))))))
set_option maxRecDepth 20000 in
theorem i_c_X1_allowsProposal : ∀ w ∈ v_c_X1_allowsProposal, w ∈ lw_tbl := List.forall_mem_cons.mpr ⟨List.mem_of_getElem? (i := 520) (by decide +kernel), List.forall_mem_append.mpr ⟨List.forall_mem_cons.mpr ⟨List.mem_of_getElem? (i := 149) (by decide +kernel), fun _ h => absurd h List.not_mem_nil⟩, List.forall_mem_append.mpr ⟨inX1, List.forall_mem_append.mpr ⟨(by unfold wsV; exact List.forall_mem_append.mpr ⟨List.forall_mem_cons.mpr ⟨List.mem_of_getElem? (i := 521) (by decide +kernel), List.forall_mem_cons.mpr ⟨List.mem_of_getElem? (i := 522) (by decide +kernel), List.forall_mem_cons.mpr ⟨List.mem_of_getElem? (i := 523) (by decide +kernel), List.forall_mem_cons.mpr ⟨List.mem_of_getElem? (i := 51) (by decide +kernel), fun _ h => absurd h List.not_mem_nil⟩⟩⟩⟩, i_c_X2_hasLength⟩), List.forall_mem_append.mpr ⟨(by unfold wsV; exact List.forall_mem_append.mpr ⟨List.forall_mem_cons.mpr ⟨List.mem_of_getElem? (i := 345) (by decide +kernel), List.forall_mem_cons.mpr ⟨List.mem_of_getElem? (i := 346) (by decide +kernel), List.forall_mem_cons.mpr ⟨List.mem_of_getElem? (i := 347) (by decide +kernel), List.forall_mem_cons.mpr ⟨List.mem_of_getElem? (i := 50) (by decide +kernel), fun _ h => absurd h List.not_mem_nil⟩⟩⟩⟩, i_c_X1_jointAt⟩), List.forall_mem_append.mpr ⟨(by unfold wsV; exact List.forall_mem_append.mpr ⟨List.forall_mem_cons.mpr ⟨List.mem_of_getElem? (i := 525) (by decide +kernel), List.forall_mem_cons.mpr ⟨List.mem_of_getElem? (i := 527) (by decide +kernel), List.forall_mem_cons.mpr ⟨List.mem_of_getElem? (i := 17) (by decide +kernel), List.forall_mem_cons.mpr ⟨List.mem_of_getElem? (i := 50) (by decide +kernel), fun _ h => absurd h List.not_mem_nil⟩⟩⟩⟩, i_c_X1_wouldTurnLeftA⟩), (by unfold wsV; exact List.forall_mem_append.mpr ⟨List.forall_mem_cons.mpr ⟨List.mem_of_getElem? (i := 525) (by decide +kernel), List.forall_mem_cons.mpr ⟨List.mem_of_getElem? (i := 527) (by decide +kernel), List.forall_mem_cons.mpr ⟨List.mem_of_getElem? (i := 17) (by decide +kernel), List.forall_mem_cons.mpr ⟨List.mem_of_getElem? (i := 50) (by decide +kernel), fun _ h => absurd h List.not_mem_nil⟩⟩⟩⟩, i_c_X1_wouldTurnLeftB⟩)⟩⟩⟩⟩⟩⟩
set_option maxHeartbeats 4000000 in
set_option maxRecDepth 100000 in
theorem c_X1_allowsProposal (l : Launch) (dC : Nat → ClassId) (dI : Nat → Nat → Nat) (e0 : Nat) (h0 hj hpr hqd : Nat) (p0 p1 p2 p3 : Int32) (sz : Nat) : Met l yX1_allowsProposal v_c_X1_allowsProposal ({ frames := 1, cells := 0, slots := 0, locals := 22 }) (fz_P (dC, dI) e0 [(h0, .inr (6, [.ref hj, .ref hpr, .ref hqd, .int 0, .int 0, .int 1])), (hpr, .inr (7, [.int p0, .int p1, .int p2, .int p3]))] [] sz (fun q : Nat => sz ≤ q) [.ref h0, .int 0]) (va_Qi (fun (r : Int32) (u : Unit) => (r = 1 ∧ (¬ (p0 = p2 ∧ p1 = p3))) ∨ (r = 0 ∧ (p0 = p2 ∧ p1 = p3))) (fun (u : Unit) (t : State) => True) (fun q : Nat => sz ≤ q)) 0 0 (fun q : Nat => sz ≤ q) := by
  refine Met.ofW (cc := cX1_allowsProposal) (maxL := 2) (ret := (some .boolean)) (by decide) rfl ?_
  intro p e s m args below meth c s₁ B hml hv
  obtain ⟨rfl, hsz, hP, hK, hD0, hAm⟩ := hv
  have hx := B.exec
  have hb := B.bytes
  have hr := B.returns
  have hts := atoms_spec (ws := v_c_X1_allowsProposal) B.pre
  have hown : s.vm.findClass RX1 = some m.cls := findClass_of_methodNamed B.named
  have hlocks := B.notSynchronized
  subst hsz
  have hD := hD0
  generalize hAe : (fun q : Nat => s.heap.size ≤ q) = A at hAm ⊢
  have hA : ∀ q : Nat, s.heap.size ≤ q → A q := fun q h => by rw [← hAe]; exact h
  have hS : va_S A s.heap s.heap [] := va_S.rf
  have hP : va_P (dC, dI) vwCl [(h0, .inr (6, [.ref hj, .ref hpr, .ref hqd, .int 0, .int 0, .int 1])), (hpr, .inr (7, [.int p0, .int p1, .int p2, .int p3]))] s.heap := hP
  have hl := lv_entry ([.ref h0, .int 0]) (n := 2) (Nat.le_of_ble_eq_true rfl)
  rw [lg_entry_eq]
  generalize (lg_sl ([.ref h0, .int 0]) ++ List.replicate (2 - (lg_sl ([.ref h0, .int 0])).length) Slot.unset).toArray = ls at hl ⊢
  have hl : lv_has ls 2 [(0, .ref h0), (1, .int 0)] := hl
  refine lv_aload_n hx hb dX1_allowsProposal_0 rfl (lv_at hl 0 rfl) ?_
  refine va_get (D := (dC, dI)) (ci := 6) (v := .ref hpr) (C := RX1) (T := TX1) (N := 6) hx hb hts (fun _ h9 => List.mem_cons_of_mem _ (List.mem_append_right _ (List.mem_append_left _ h9))) hown hK hP 0 rfl rfl 1 (by decide) (hts _ (List.mem_cons_of_mem _ (List.mem_append_left _ (List.mem_of_getElem? (i := 0) rfl)))) (fun _ h9 => h9) rfl dX1_allowsProposal_1 ?_
  have hPc := hP.sub (ws' := [(hpr, .inr (7, [.int p0, .int p1, .int p2, .int p3]))]) [1] rfl
  have hDc := hD.sub (ws' := [(hpr, .inr (7, [.int p0, .int p1, .int p2, .int p3]))]) [1] (by decide) rfl
  have hKc := hK.sub (tys' := []) [] rfl
  have hFc : ∀ q : Nat, s.heap.size ≤ q → A q := fun q h => hA q (Nat.le_trans hS.1 h)
  refine va_calli (va_runV (As := []) (rest := []) ⟨hx, hb, hml, hown, hts⟩ (c_X2_hasLength l dC dI e0 hpr p0 p1 p2 p3 s.heap.size) (cwV 0 hts (goodIn_sub (fun _ h9 => List.mem_cons_of_mem _ (List.mem_append_right _ (List.mem_append_right _ (List.mem_append_left _ h9)))) (by decide +kernel)) rfl rfl rfl (by decide +kernel) ⟨(Nat.le_of_ble_eq_true rfl), (Nat.le_of_ble_eq_true rfl)⟩) ⟨fz_blind, va_recv hKc hPc (ci := 7) (q0 := 0) rfl rfl, fz_pre hPc hKc hDc hAm hS hFc⟩ rfl rfl hl.1 rfl (lv_room (Nat.le_of_ble_eq_true rfl)) dX1_allowsProposal_4 ⟨(Nat.le_of_ble_eq_true rfl), (Nat.le_of_ble_eq_true rfl)⟩) hS (fun q _ h => hFc q h) hFc (fun r u t H1 locs ht hvm hw hB hz1 hk1 hS => ?_)
  rcases hw with ⟨rfl, hp_1⟩ | ⟨rfl, hp_2⟩
  · have hP := fz_keep hP hk1
    generalize H1 = H at hP hS ⊢
    have hP : va_P (dC, dI) vwCl [(h0, .inr (6, [.ref hj, .ref hpr, .ref hqd, .int 0, .int 0, .int 1])), (hpr, .inr (7, [.int p0, .int p1, .int p2, .int p3]))] H := hP
    refine W.widen (k := 0) (n := 0) (Nat.le_of_ble_eq_true rfl) (Nat.le_of_ble_eq_true rfl) ?_
    refine lv_if_eq (tgt := 50) hx hb dX1_allowsProposal_7 (by decide) (fun c_9 => absurd c_9 (by decide)) (fun _ => ?_)
    refine lv_aload_n hx hb dX1_allowsProposal_10 rfl (lv_at hl 0 rfl) ?_
    refine lv_aload_n hx hb dX1_allowsProposal_11 rfl (lv_at hl 0 rfl) ?_
    refine lv_iload_n hx hb dX1_allowsProposal_12 rfl (lv_at hl 1 rfl) ?_
    refine lv_iconst (v := 1) hx hb dX1_allowsProposal_13 (by decide) ?_
    refine lv_isub hx hb dX1_allowsProposal_14 ?_
    refine lv_topi (fun z_9 e_9 => ?_)
    obtain rfl : (-1) = z_9 := (e_9.trans (by decide)).symm
    have hPc := hP.sub (ws' := [(h0, .inr (6, [.ref hj, .ref hpr, .ref hqd, .int 0, .int 0, .int 1]))]) [0] rfl
    have hDc := hD.sub (ws' := [(h0, .inr (6, [.ref hj, .ref hpr, .ref hqd, .int 0, .int 0, .int 1]))]) [0] (by decide) rfl
    have hKc := hK.sub (tys' := []) [] rfl
    have hFc : ∀ q : Nat, H.size ≤ q → A q := fun q h => hA q (Nat.le_trans hS.1 h)
    refine va_callq (va_runV (As := [.int (-1)]) (rest := [.ref h0]) ⟨hx, hb, hml, hown, hts⟩ (c_X1_jointAt l dC dI e0 h0 (-1) hj hpr hqd H.size) (cwV 1 hts (goodIn_sub (fun _ h9 => List.mem_cons_of_mem _ (List.mem_append_right _ (List.mem_append_right _ (List.mem_append_right _ (List.mem_append_left _ h9))))) (by decide +kernel)) rfl rfl rfl (by decide +kernel) ⟨(Nat.le_of_ble_eq_true rfl), (Nat.le_of_ble_eq_true rfl)⟩) ⟨fz_blind, va_recv hKc hPc (ci := 6) (q0 := 0) rfl rfl, fz_pre hPc hKc hDc hAm hS hFc⟩ rfl rfl hl.1 rfl (lv_room (Nat.le_of_ble_eq_true rfl)) dX1_allowsProposal_15 ⟨(Nat.le_of_ble_eq_true rfl), (Nat.le_of_ble_eq_true rfl)⟩) hS (fun q _ h => hFc q h) hFc (fun r u t H1 locs ht hvm hw hB hz1 hk1 hS => ?_)
    obtain rfl := hw
    have hP := fz_keep hP hk1
    generalize H1 = H at hP hS ⊢
    have hP : va_P (dC, dI) vwCl [(h0, .inr (6, [.ref hj, .ref hpr, .ref hqd, .int 0, .int 0, .int 1])), (hpr, .inr (7, [.int p0, .int p1, .int p2, .int p3]))] H := hP
    refine W.widen (k := 0) (n := 0) (Nat.le_of_ble_eq_true rfl) (Nat.le_of_ble_eq_true rfl) ?_
    refine lv_aload_n hx hb dX1_allowsProposal_18 rfl (lv_at hl 0 rfl) ?_
    refine va_get (D := (dC, dI)) (ci := 6) (v := .ref hpr) (C := RX1) (T := TX1) (N := 6) hx hb hts (fun _ h9 => List.mem_cons_of_mem _ (List.mem_append_right _ (List.mem_append_left _ h9))) hown hK hP 0 rfl rfl 1 (by decide) (hts _ (List.mem_cons_of_mem _ (List.mem_append_left _ (List.mem_of_getElem? (i := 0) rfl)))) (fun _ h9 => h9) rfl dX1_allowsProposal_19 ?_
    have hPc := hP.sub (ws' := [(h0, .inr (6, [.ref hj, .ref hpr, .ref hqd, .int 0, .int 0, .int 1]))]) [0] rfl
    have hDc := hD.sub (ws' := [(h0, .inr (6, [.ref hj, .ref hpr, .ref hqd, .int 0, .int 0, .int 1]))]) [0] (by decide) rfl
    have hKc := hK.sub (tys' := []) [] rfl
    have hFc : ∀ q : Nat, H.size ≤ q → A q := fun q h => hA q (Nat.le_trans hS.1 h)
    refine va_calli (va_runV (As := [.null, .ref hpr]) (rest := []) ⟨hx, hb, hml, hown, hts⟩ (c_X1_wouldTurnLeftA l dC dI e0 h0 hpr hj hpr hqd H.size) (cwV 2 hts (goodIn_sub (fun _ h9 => List.mem_cons_of_mem _ (List.mem_append_right _ (List.mem_append_right _ (List.mem_append_right _ (List.mem_append_right _ (List.mem_append_left _ h9)))))) (by decide +kernel)) rfl rfl rfl (by decide +kernel) ⟨(Nat.le_of_ble_eq_true rfl), (Nat.le_of_ble_eq_true rfl)⟩) ⟨fz_blind, va_recv hKc hPc (ci := 6) (q0 := 0) rfl rfl, fz_pre hPc hKc hDc hAm hS hFc⟩ rfl rfl hl.1 rfl (lv_room (Nat.le_of_ble_eq_true rfl)) dX1_allowsProposal_22 ⟨(Nat.le_of_ble_eq_true rfl), (Nat.le_of_ble_eq_true rfl)⟩) hS (fun q _ h => hFc q h) hFc (fun r u t H1 locs ht hvm hw hB hz1 hk1 hS => ?_)
    obtain rfl := hw
    have hP := fz_keep hP hk1
    generalize H1 = H at hP hS ⊢
    have hP : va_P (dC, dI) vwCl [(h0, .inr (6, [.ref hj, .ref hpr, .ref hqd, .int 0, .int 0, .int 1])), (hpr, .inr (7, [.int p0, .int p1, .int p2, .int p3]))] H := hP
    refine W.widen (k := 0) (n := 0) (Nat.le_of_ble_eq_true rfl) (Nat.le_of_ble_eq_true rfl) ?_
    refine lv_if_eq (tgt := 50) hx hb dX1_allowsProposal_25 (by decide) (fun c_9 => absurd c_9 (by decide)) (fun _ => ?_)
    refine lv_aload_n hx hb dX1_allowsProposal_28 rfl (lv_at hl 0 rfl) ?_
    refine lv_aload_n hx hb dX1_allowsProposal_29 rfl (lv_at hl 0 rfl) ?_
    refine va_get (D := (dC, dI)) (ci := 6) (v := .ref hpr) (C := RX1) (T := TX1) (N := 6) hx hb hts (fun _ h9 => List.mem_cons_of_mem _ (List.mem_append_right _ (List.mem_append_left _ h9))) hown hK hP 0 rfl rfl 1 (by decide) (hts _ (List.mem_cons_of_mem _ (List.mem_append_left _ (List.mem_of_getElem? (i := 0) rfl)))) (fun _ h9 => h9) rfl dX1_allowsProposal_30 ?_
    refine lv_aload_n hx hb dX1_allowsProposal_33 rfl (lv_at hl 0 rfl) ?_
    refine lv_iload_n hx hb dX1_allowsProposal_34 rfl (lv_at hl 1 rfl) ?_
    refine lv_iconst (v := 1) hx hb dX1_allowsProposal_35 (by decide) ?_
    refine lv_iadd hx hb dX1_allowsProposal_36 ?_
    refine lv_topi (fun z_9 e_9 => ?_)
    obtain rfl : 1 = z_9 := (e_9.trans (by decide)).symm
    have hPc := hP.sub (ws' := [(h0, .inr (6, [.ref hj, .ref hpr, .ref hqd, .int 0, .int 0, .int 1]))]) [0] rfl
    have hDc := hD.sub (ws' := [(h0, .inr (6, [.ref hj, .ref hpr, .ref hqd, .int 0, .int 0, .int 1]))]) [0] (by decide) rfl
    have hKc := hK.sub (tys' := []) [] rfl
    have hFc : ∀ q : Nat, H.size ≤ q → A q := fun q h => hA q (Nat.le_trans hS.1 h)
    refine va_callq (va_runV (As := [.int 1]) (rest := [.ref hpr, .ref h0]) ⟨hx, hb, hml, hown, hts⟩ (c_X1_jointAt l dC dI e0 h0 1 hj hpr hqd H.size) (cwV 1 hts (goodIn_sub (fun _ h9 => List.mem_cons_of_mem _ (List.mem_append_right _ (List.mem_append_right _ (List.mem_append_right _ (List.mem_append_left _ h9))))) (by decide +kernel)) rfl rfl rfl (by decide +kernel) ⟨(Nat.le_of_ble_eq_true rfl), (Nat.le_of_ble_eq_true rfl)⟩) ⟨fz_blind, va_recv hKc hPc (ci := 6) (q0 := 0) rfl rfl, fz_pre hPc hKc hDc hAm hS hFc⟩ rfl rfl hl.1 rfl (lv_room (Nat.le_of_ble_eq_true rfl)) dX1_allowsProposal_37 ⟨(Nat.le_of_ble_eq_true rfl), (Nat.le_of_ble_eq_true rfl)⟩) hS (fun q _ h => hFc q h) hFc (fun r u t H1 locs ht hvm hw hB hz1 hk1 hS => ?_)
    obtain rfl := hw
    have hP := fz_keep hP hk1
    generalize H1 = H at hP hS ⊢
    have hP : va_P (dC, dI) vwCl [(h0, .inr (6, [.ref hj, .ref hpr, .ref hqd, .int 0, .int 0, .int 1])), (hpr, .inr (7, [.int p0, .int p1, .int p2, .int p3]))] H := hP
    refine W.widen (k := 0) (n := 0) (Nat.le_of_ble_eq_true rfl) (Nat.le_of_ble_eq_true rfl) ?_
    have hPc := hP.sub (ws' := [(h0, .inr (6, [.ref hj, .ref hpr, .ref hqd, .int 0, .int 0, .int 1]))]) [0] rfl
    have hDc := hD.sub (ws' := [(h0, .inr (6, [.ref hj, .ref hpr, .ref hqd, .int 0, .int 0, .int 1]))]) [0] (by decide) rfl
    have hKc := hK.sub (tys' := []) [] rfl
    have hFc : ∀ q : Nat, H.size ≤ q → A q := fun q h => hA q (Nat.le_trans hS.1 h)
    refine va_calli (va_runV (As := [.ref hpr, .null]) (rest := []) ⟨hx, hb, hml, hown, hts⟩ (c_X1_wouldTurnLeftB l dC dI e0 h0 hpr hj hpr hqd H.size) (cwV 2 hts (goodIn_sub (fun _ h9 => List.mem_cons_of_mem _ (List.mem_append_right _ (List.mem_append_right _ (List.mem_append_right _ (List.mem_append_right _ (List.mem_append_right _ h9)))))) (by decide +kernel)) rfl rfl rfl (by decide +kernel) ⟨(Nat.le_of_ble_eq_true rfl), (Nat.le_of_ble_eq_true rfl)⟩) ⟨fz_blind, va_recv hKc hPc (ci := 6) (q0 := 0) rfl rfl, fz_pre hPc hKc hDc hAm hS hFc⟩ rfl rfl hl.1 rfl (lv_room (Nat.le_of_ble_eq_true rfl)) dX1_allowsProposal_40 ⟨(Nat.le_of_ble_eq_true rfl), (Nat.le_of_ble_eq_true rfl)⟩) hS (fun q _ h => hFc q h) hFc (fun r u t H1 locs ht hvm hw hB hz1 hk1 hS => ?_)
    obtain rfl := hw
    have hP := fz_keep hP hk1
    generalize H1 = H at hP hS ⊢
    have hP : va_P (dC, dI) vwCl [(h0, .inr (6, [.ref hj, .ref hpr, .ref hqd, .int 0, .int 0, .int 1])), (hpr, .inr (7, [.int p0, .int p1, .int p2, .int p3]))] H := hP
    refine W.widen (k := 0) (n := 0) (Nat.le_of_ble_eq_true rfl) (Nat.le_of_ble_eq_true rfl) ?_
    refine lv_if_eq (tgt := 50) hx hb dX1_allowsProposal_43 (by decide) (fun c_9 => absurd c_9 (by decide)) (fun _ => ?_)
    refine lv_iconst (v := 1) hx hb dX1_allowsProposal_46 (by decide) ?_
    refine lv_goto (tgt := 51) hx hb dX1_allowsProposal_47 (by decide) ?_
    refine W.widen (k := 0) (n := 0) (Nat.le_of_ble_eq_true rfl) (Nat.le_of_ble_eq_true rfl) ?_
    exact W.zret (v := 1) hx hb hr rfl (fun t ht hW => ⟨⟨1, (), rfl, Or.inl (⟨rfl, hp_1⟩), trivial⟩, hS.F ht⟩) hS.2.2 dX1_allowsProposal_51
  · have hP := fz_keep hP hk1
    generalize H1 = H at hP hS ⊢
    have hP : va_P (dC, dI) vwCl [(h0, .inr (6, [.ref hj, .ref hpr, .ref hqd, .int 0, .int 0, .int 1])), (hpr, .inr (7, [.int p0, .int p1, .int p2, .int p3]))] H := hP
    refine W.widen (k := 0) (n := 0) (Nat.le_of_ble_eq_true rfl) (Nat.le_of_ble_eq_true rfl) ?_
    refine lv_if_eq (tgt := 50) hx hb dX1_allowsProposal_7 (by decide) (fun _ => ?_) (fun c_9 => absurd (by decide) c_9)
    refine lv_iconst (v := 0) hx hb dX1_allowsProposal_50 (by decide) ?_
    refine W.widen (k := 0) (n := 0) (Nat.le_of_ble_eq_true rfl) (Nat.le_of_ble_eq_true rfl) ?_
    exact W.zret (v := 0) hx hb hr rfl (fun t ht hW => ⟨⟨0, (), rfl, Or.inr (⟨rfl, hp_2⟩), trivial⟩, hS.F ht⟩) hS.2.2 dX1_allowsProposal_51
def v_c_X1_acceptMovedJoint : List Cond := .code yX1_acceptMovedJoint cX1_acceptMovedJoint 3 none :: ([.fieldLink RX1 18 "VoussoirYard$Drawing" "proposed" "LVoussoirYard$Joint;", .fieldLink RX1 76 "VoussoirYard$Joint" "innerX" "I", .fieldLink RX1 79 "VoussoirYard$Joint" "innerY" "I", .fieldLink RX1 82 "VoussoirYard$Joint" "outerX" "I", .fieldLink RX1 85 "VoussoirYard$Joint" "outerY" "I", .fieldLink RX1 33 "VoussoirYard$Drawing" "version" "I"] ++ (wsV RX1 57 RX1 yX1_jointAt v_c_X1_jointAt0 ++ (wsX10 ++ (wsX20 ++ (wsV RX1 49 RX2 yX2_moveTo v_c_X2_moveTo)))))
set_option maxRecDepth 20000 in
theorem i_c_X1_acceptMovedJoint : ∀ w ∈ v_c_X1_acceptMovedJoint, w ∈ lw_tbl := List.forall_mem_cons.mpr ⟨List.mem_of_getElem? (i := 573) (by decide +kernel), List.forall_mem_append.mpr ⟨List.forall_mem_cons.mpr ⟨List.mem_of_getElem? (i := 149) (by decide +kernel), List.forall_mem_cons.mpr ⟨List.mem_of_getElem? (i := 112) (by decide +kernel), List.forall_mem_cons.mpr ⟨List.mem_of_getElem? (i := 116) (by decide +kernel), List.forall_mem_cons.mpr ⟨List.mem_of_getElem? (i := 120) (by decide +kernel), List.forall_mem_cons.mpr ⟨List.mem_of_getElem? (i := 124) (by decide +kernel), List.forall_mem_cons.mpr ⟨List.mem_of_getElem? (i := 154) (by decide +kernel), fun _ h => absurd h List.not_mem_nil⟩⟩⟩⟩⟩⟩, List.forall_mem_append.mpr ⟨(by unfold wsV; exact List.forall_mem_append.mpr ⟨List.forall_mem_cons.mpr ⟨List.mem_of_getElem? (i := 345) (by decide +kernel), List.forall_mem_cons.mpr ⟨List.mem_of_getElem? (i := 346) (by decide +kernel), List.forall_mem_cons.mpr ⟨List.mem_of_getElem? (i := 347) (by decide +kernel), List.forall_mem_cons.mpr ⟨List.mem_of_getElem? (i := 50) (by decide +kernel), fun _ h => absurd h List.not_mem_nil⟩⟩⟩⟩, i_c_X1_jointAt0⟩), List.forall_mem_append.mpr ⟨inX1, List.forall_mem_append.mpr ⟨inX2, (by unfold wsV; exact List.forall_mem_append.mpr ⟨List.forall_mem_cons.mpr ⟨List.mem_of_getElem? (i := 513) (by decide +kernel), List.forall_mem_cons.mpr ⟨List.mem_of_getElem? (i := 514) (by decide +kernel), List.forall_mem_cons.mpr ⟨List.mem_of_getElem? (i := 515) (by decide +kernel), List.forall_mem_cons.mpr ⟨List.mem_of_getElem? (i := 51) (by decide +kernel), fun _ h => absurd h List.not_mem_nil⟩⟩⟩⟩, i_c_X2_moveTo⟩)⟩⟩⟩⟩⟩
set_option maxHeartbeats 4000000 in
set_option maxRecDepth 100000 in
theorem c_X1_acceptMovedJoint (l : Launch) (dC : Nat → ClassId) (dI : Nat → Nat → Nat) (e0 : Nat) (h0 hj hpr hqd : Nat) (cR : ClassId) (hj0 : Nat) (fj : Nat → Option Nat) (p0 p1 p2 p3 : Int32) (sz : Nat) (hj0f : fj 0 = some hj0) : Met l yX1_acceptMovedJoint v_c_X1_acceptMovedJoint ({ frames := 1, cells := 0, slots := 0, locals := 24 }) (fz_P (dC, dI) e0 [(h0, .inr (6, [.ref hj, .ref hpr, .ref hqd, .int 1, .int 0, .int 1])), (hj, .inl (cR, 8, .inr (.inr (.inr (.inr fj))))), (hj0, .inr (7, [.int 0, .int 0, .int 0, .int 0])), (hpr, .inr (7, [.int p0, .int p1, .int p2, .int p3]))] [(cR, .object RX2)] sz (va_A [(h0, .inr (6, [.ref hj, .ref hpr, .ref hqd, .int 1, .int 0, .int 1])), (hj, .inl (cR, 8, .inr (.inr (.inr (.inr fj))))), (hj0, .inr (7, [.int 0, .int 0, .int 0, .int 0])), (hpr, .inr (7, [.int p0, .int p1, .int p2, .int p3]))] sz) [.ref h0, .int 0]) (va_Qv (fun (u : Unit) => True) (fun (u : Unit) (t : State) => True) (va_A [(h0, .inr (6, [.ref hj, .ref hpr, .ref hqd, .int 1, .int 0, .int 1])), (hj, .inl (cR, 8, .inr (.inr (.inr (.inr fj))))), (hj0, .inr (7, [.int 0, .int 0, .int 0, .int 0])), (hpr, .inr (7, [.int p0, .int p1, .int p2, .int p3]))] sz)) 0 0 (va_A [(h0, .inr (6, [.ref hj, .ref hpr, .ref hqd, .int 1, .int 0, .int 1])), (hj, .inl (cR, 8, .inr (.inr (.inr (.inr fj))))), (hj0, .inr (7, [.int 0, .int 0, .int 0, .int 0])), (hpr, .inr (7, [.int p0, .int p1, .int p2, .int p3]))] sz) := by
  refine Met.ofW (cc := cX1_acceptMovedJoint) (maxL := 3) (ret := none) (by decide) rfl ?_
  intro p e s m args below meth c s₁ B hml hv
  obtain ⟨rfl, hsz, hP, hK, hD0, hAm⟩ := hv
  have hx := B.exec
  have hb := B.bytes
  have hr := B.returns
  have hts := atoms_spec (ws := v_c_X1_acceptMovedJoint) B.pre
  have hown : s.vm.findClass RX1 = some m.cls := findClass_of_methodNamed B.named
  have hlocks := B.notSynchronized
  subst hsz
  have hD := hD0.self (sz := s.heap.size)
  generalize hAe : va_A [(h0, .inr (6, [.ref hj, .ref hpr, .ref hqd, .int 1, .int 0, .int 1])), (hj, .inl (cR, 8, .inr (.inr (.inr (.inr fj))))), (hj0, .inr (7, [.int 0, .int 0, .int 0, .int 0])), (hpr, .inr (7, [.int p0, .int p1, .int p2, .int p3]))] s.heap.size = A at hD hAm ⊢
  have hA : ∀ q : Nat, s.heap.size ≤ q → A q := fun q h => by rw [← hAe]; exact Or.inr h
  have hS : va_S A s.heap s.heap [] := va_S.rf
  have hP : va_P (dC, dI) vwCl [(h0, .inr (6, [.ref hj, .ref hpr, .ref hqd, .int 1, .int 0, .int 1])), (hj, .inl (cR, 8, .inr (.inr (.inr (.inr fj))))), (hj0, .inr (7, [.int 0, .int 0, .int 0, .int 0])), (hpr, .inr (7, [.int p0, .int p1, .int p2, .int p3]))] s.heap := hP
  have hl := lv_entry ([.ref h0, .int 0]) (n := 3) (Nat.le_of_ble_eq_true rfl)
  rw [lg_entry_eq]
  generalize (lg_sl ([.ref h0, .int 0]) ++ List.replicate (3 - (lg_sl ([.ref h0, .int 0])).length) Slot.unset).toArray = ls at hl ⊢
  have hl : lv_has ls 3 [(0, .ref h0), (1, .int 0)] := hl
  refine lv_aload_n hx hb dX1_acceptMovedJoint_0 rfl (lv_at hl 0 rfl) ?_
  refine lv_iload_n hx hb dX1_acceptMovedJoint_1 rfl (lv_at hl 1 rfl) ?_
  have hPc := hP.sub (ws' := [(h0, .inr (6, [.ref hj, .ref hpr, .ref hqd, .int 1, .int 0, .int 1])), (hj, .inl (cR, 8, .inr (.inr (.inr (.inr fj)))))]) [0, 1] rfl
  have hDc := hD.sub (ws' := [(h0, .inr (6, [.ref hj, .ref hpr, .ref hqd, .int 1, .int 0, .int 1])), (hj, .inl (cR, 8, .inr (.inr (.inr (.inr fj)))))]) [0, 1] (by decide) rfl
  have hKc := hK.sub (tys' := [(cR, .object RX2)]) [0] rfl
  have hFc : ∀ q : Nat, s.heap.size ≤ q → A q := fun q h => hA q (Nat.le_trans hS.1 h)
  refine va_callr (va_runV (As := [.int 0]) (rest := []) ⟨hx, hb, hml, hown, hts⟩ (c_X1_jointAt0 l dC dI e0 h0 hj hpr hqd cR hj0 fj s.heap.size hj0f) (cwV 1 hts (goodIn_sub (fun _ h9 => List.mem_cons_of_mem _ (List.mem_append_right _ (List.mem_append_left _ h9))) (by decide +kernel)) rfl rfl rfl (by decide +kernel) ⟨(Nat.le_of_ble_eq_true rfl), (Nat.le_of_ble_eq_true rfl)⟩) ⟨fz_blind, va_recv hKc hPc (ci := 6) (q0 := 0) rfl rfl, fz_pre hPc hKc hDc hAm hS hFc⟩ rfl rfl hl.1 rfl (lv_room (Nat.le_of_ble_eq_true rfl)) dX1_acceptMovedJoint_2 ⟨(Nat.le_of_ble_eq_true rfl), (Nat.le_of_ble_eq_true rfl)⟩) hS (fun q _ h => hFc q h) hFc (fun u ra_1 t H1 locs ht hvm hw hB hz1 hk1 hS => ?_)
  obtain rfl := hB.symm
  have hP := fz_keep hP hk1
  generalize H1 = H at hP hS ⊢
  have hP : va_P (dC, dI) vwCl [(h0, .inr (6, [.ref hj, .ref hpr, .ref hqd, .int 1, .int 0, .int 1])), (hj, .inl (cR, 8, .inr (.inr (.inr (.inr fj))))), (hj0, .inr (7, [.int 0, .int 0, .int 0, .int 0])), (hpr, .inr (7, [.int p0, .int p1, .int p2, .int p3]))] H := hP
  have hD : va_D A [(h0, .inr (6, [.ref hj, .ref hpr, .ref hqd, .int 1, .int 0, .int 1])), (hj, .inl (cR, 8, .inr (.inr (.inr (.inr fj))))), (hj0, .inr (7, [.int 0, .int 0, .int 0, .int 0])), (hpr, .inr (7, [.int p0, .int p1, .int p2, .int p3]))] := hD
  refine W.widen (k := 0) (n := 0) (Nat.le_of_ble_eq_true rfl) (Nat.le_of_ble_eq_true rfl) ?_
  refine lv_astore_n (lv' := [(2, .ref hj0), (0, .ref h0), (1, .int 0)]) hx hb dX1_acceptMovedJoint_5 rfl hl (by decide) rfl (fun ls hl => ?_)
  refine lv_aload_n hx hb dX1_acceptMovedJoint_6 rfl (lv_at hl 0 rfl) ?_
  refine lv_ifnull hx hb dX1_acceptMovedJoint_7 ?_
  refine lv_aload_n hx hb dX1_acceptMovedJoint_10 rfl (lv_at hl 0 rfl) ?_
  refine lv_aload_n hx hb dX1_acceptMovedJoint_11 rfl (lv_at hl 1 rfl) ?_
  refine va_get (D := (dC, dI)) (ci := 6) (v := .ref hpr) (C := RX1) (T := TX1) (N := 6) hx hb hts (fun _ h9 => List.mem_cons_of_mem _ (List.mem_append_right _ (List.mem_append_right _ (List.mem_append_left _ h9)))) hown hK hP 0 rfl rfl 1 (by decide) (hts _ (List.mem_cons_of_mem _ (List.mem_append_left _ (List.mem_of_getElem? (i := 0) rfl)))) (fun _ h9 => h9) rfl dX1_acceptMovedJoint_12 ?_
  refine va_get (D := (dC, dI)) (ci := 7) (v := .int p0) (C := RX2) (T := TX2) (N := 4) hx hb hts (fun _ h9 => List.mem_cons_of_mem _ (List.mem_append_right _ (List.mem_append_right _ (List.mem_append_right _ (List.mem_append_left _ h9))))) hown hK hP 3 rfl rfl 0 (by decide) (hts _ (List.mem_cons_of_mem _ (List.mem_append_left _ (List.mem_of_getElem? (i := 1) rfl)))) (fun _ h9 => h9) rfl dX1_acceptMovedJoint_15 ?_
  refine lv_aload_n hx hb dX1_acceptMovedJoint_18 rfl (lv_at hl 1 rfl) ?_
  refine va_get (D := (dC, dI)) (ci := 6) (v := .ref hpr) (C := RX1) (T := TX1) (N := 6) hx hb hts (fun _ h9 => List.mem_cons_of_mem _ (List.mem_append_right _ (List.mem_append_right _ (List.mem_append_left _ h9)))) hown hK hP 0 rfl rfl 1 (by decide) (hts _ (List.mem_cons_of_mem _ (List.mem_append_left _ (List.mem_of_getElem? (i := 0) rfl)))) (fun _ h9 => h9) rfl dX1_acceptMovedJoint_19 ?_
  refine va_get (D := (dC, dI)) (ci := 7) (v := .int p1) (C := RX2) (T := TX2) (N := 4) hx hb hts (fun _ h9 => List.mem_cons_of_mem _ (List.mem_append_right _ (List.mem_append_right _ (List.mem_append_right _ (List.mem_append_left _ h9))))) hown hK hP 3 rfl rfl 1 (by decide) (hts _ (List.mem_cons_of_mem _ (List.mem_append_left _ (List.mem_of_getElem? (i := 2) rfl)))) (fun _ h9 => h9) rfl dX1_acceptMovedJoint_22 ?_
  refine lv_aload_n hx hb dX1_acceptMovedJoint_25 rfl (lv_at hl 1 rfl) ?_
  refine va_get (D := (dC, dI)) (ci := 6) (v := .ref hpr) (C := RX1) (T := TX1) (N := 6) hx hb hts (fun _ h9 => List.mem_cons_of_mem _ (List.mem_append_right _ (List.mem_append_right _ (List.mem_append_left _ h9)))) hown hK hP 0 rfl rfl 1 (by decide) (hts _ (List.mem_cons_of_mem _ (List.mem_append_left _ (List.mem_of_getElem? (i := 0) rfl)))) (fun _ h9 => h9) rfl dX1_acceptMovedJoint_26 ?_
  refine va_get (D := (dC, dI)) (ci := 7) (v := .int p2) (C := RX2) (T := TX2) (N := 4) hx hb hts (fun _ h9 => List.mem_cons_of_mem _ (List.mem_append_right _ (List.mem_append_right _ (List.mem_append_right _ (List.mem_append_left _ h9))))) hown hK hP 3 rfl rfl 2 (by decide) (hts _ (List.mem_cons_of_mem _ (List.mem_append_left _ (List.mem_of_getElem? (i := 3) rfl)))) (fun _ h9 => h9) rfl dX1_acceptMovedJoint_29 ?_
  refine lv_aload_n hx hb dX1_acceptMovedJoint_32 rfl (lv_at hl 1 rfl) ?_
  refine va_get (D := (dC, dI)) (ci := 6) (v := .ref hpr) (C := RX1) (T := TX1) (N := 6) hx hb hts (fun _ h9 => List.mem_cons_of_mem _ (List.mem_append_right _ (List.mem_append_right _ (List.mem_append_left _ h9)))) hown hK hP 0 rfl rfl 1 (by decide) (hts _ (List.mem_cons_of_mem _ (List.mem_append_left _ (List.mem_of_getElem? (i := 0) rfl)))) (fun _ h9 => h9) rfl dX1_acceptMovedJoint_33 ?_
  refine va_get (D := (dC, dI)) (ci := 7) (v := .int p3) (C := RX2) (T := TX2) (N := 4) hx hb hts (fun _ h9 => List.mem_cons_of_mem _ (List.mem_append_right _ (List.mem_append_right _ (List.mem_append_right _ (List.mem_append_left _ h9))))) hown hK hP 3 rfl rfl 3 (by decide) (hts _ (List.mem_cons_of_mem _ (List.mem_append_left _ (List.mem_of_getElem? (i := 4) rfl)))) (fun _ h9 => h9) rfl dX1_acceptMovedJoint_36 ?_
  have hPc := hP.sub (ws' := [(hj0, .inr (7, [.int 0, .int 0, .int 0, .int 0]))]) [2] rfl
  have hDc := hD.sub (ws' := [(hj0, .inr (7, [.int 0, .int 0, .int 0, .int 0]))]) [2] (by decide) rfl
  have hKc := hK.sub (tys' := []) [] rfl
  have hFc := va_free (wc := [(hj0, .inr (7, [.int 0, .int 0, .int 0, .int 0]))]) hD hS hA [2] rfl
  refine va_callv (va_runV (As := [.int p0, .int p1, .int p2, .int p3]) (rest := []) ⟨hx, hb, hml, hown, hts⟩ (c_X2_moveTo l dC dI e0 hj0 p0 p1 p2 p3 0 0 0 0 H.size) (cwV 4 hts (goodIn_sub (fun _ h9 => List.mem_cons_of_mem _ (List.mem_append_right _ (List.mem_append_right _ (List.mem_append_right _ (List.mem_append_right _ h9))))) (by decide +kernel)) rfl rfl rfl (by decide +kernel) ⟨(Nat.le_of_ble_eq_true rfl), (Nat.le_of_ble_eq_true rfl)⟩) ⟨fz_blind, va_recv hKc hPc (ci := 7) (q0 := 0) rfl rfl, fz_pre hPc hKc hDc hAm hS hFc⟩ rfl rfl hl.1 rfl (lv_room (Nat.le_of_ble_eq_true rfl)) dX1_acceptMovedJoint_39 ⟨(Nat.le_of_ble_eq_true rfl), (Nat.le_of_ble_eq_true rfl)⟩) hS (fun q _ h => hFc q h) hFc (fun u t H1 locs ht hvm hw hB hz1 hk1 hS => ?_)
  obtain ⟨hP1, hK1, hD1⟩ := hB
  rw [ht] at hP1
  have hK1 := va_K.moved hvm.symm hK1
  obtain ⟨hP, hD⟩ := va_join (wr := [(h0, .inr (6, [.ref hj, .ref hpr, .ref hqd, .int 1, .int 0, .int 1])), (hj, .inl (cR, 8, .inr (.inr (.inr (.inr fj))))), (hpr, .inr (7, [.int p0, .int p1, .int p2, .int p3]))]) (w1 := [(hj0, .inr (7, [.int p0, .int p1, .int p2, .int p3]))]) hP hD [2] [0, 1, 3] rfl rfl (by decide) (by decide) hk1 hFc hP1 hD1
  generalize H1 = H at hP hS ⊢
  have hP : va_P (dC, dI) vwCl [(h0, .inr (6, [.ref hj, .ref hpr, .ref hqd, .int 1, .int 0, .int 1])), (hj, .inl (cR, 8, .inr (.inr (.inr (.inr fj))))), (hpr, .inr (7, [.int p0, .int p1, .int p2, .int p3])), (hj0, .inr (7, [.int p0, .int p1, .int p2, .int p3]))] H := hP
  have hD : va_D A [(h0, .inr (6, [.ref hj, .ref hpr, .ref hqd, .int 1, .int 0, .int 1])), (hj, .inl (cR, 8, .inr (.inr (.inr (.inr fj))))), (hpr, .inr (7, [.int p0, .int p1, .int p2, .int p3])), (hj0, .inr (7, [.int p0, .int p1, .int p2, .int p3]))] := hD
  have hK : va_K (dC, dI) vwCl [(cR, .object RX2)] s := hK
  refine W.widen (k := 0) (n := 0) (Nat.le_of_ble_eq_true rfl) (Nat.le_of_ble_eq_true rfl) ?_
  refine lv_aload_n hx hb dX1_acceptMovedJoint_42 rfl (lv_at hl 1 rfl) ?_
  refine lv_dup hx hb dX1_acceptMovedJoint_43 rfl ?_
  refine va_get (D := (dC, dI)) (ci := 6) (v := .int 0) (C := RX1) (T := TX1) (N := 6) hx hb hts (fun _ h9 => List.mem_cons_of_mem _ (List.mem_append_right _ (List.mem_append_right _ (List.mem_append_left _ h9)))) hown hK hP 0 rfl rfl 4 (by decide) (hts _ (List.mem_cons_of_mem _ (List.mem_append_left _ (List.mem_of_getElem? (i := 5) rfl)))) (fun _ h9 => h9) rfl dX1_acceptMovedJoint_44 ?_
  refine lv_iconst (v := 1) hx hb dX1_acceptMovedJoint_47 (by decide) ?_
  refine lv_iadd hx hb dX1_acceptMovedJoint_48 ?_
  refine lv_topi (fun z_9 e_9 => ?_)
  obtain rfl : 1 = z_9 := (e_9.trans (by decide)).symm
  refine va_put (D := (dC, dI)) (ci := 6) (v := .int 1) (ty := .int) (C := RX1) (T := TX1) (N := 6) hx hb hts (fun _ h9 => List.mem_cons_of_mem _ (List.mem_append_right _ (List.mem_append_right _ (List.mem_append_left _ h9)))) tyX1 tyX1_ok nmX1 hown hK hP hD hS 0 rfl rfl 4 (by decide) (hts _ (List.mem_cons_of_mem _ (List.mem_append_left _ (List.mem_of_getElem? (i := 5) rfl)))) (fun _ h9 => h9) rfl (by decide +kernel) rfl rfl (Nat.le_of_ble_eq_true rfl) dX1_acceptMovedJoint_49 (fun H locs hP hD hS => ?_)
  have hP : va_P (dC, dI) vwCl [(h0, .inr (6, [.ref hj, .ref hpr, .ref hqd, .int 1, .int 1, .int 1])), (hj, .inl (cR, 8, .inr (.inr (.inr (.inr fj))))), (hpr, .inr (7, [.int p0, .int p1, .int p2, .int p3])), (hj0, .inr (7, [.int p0, .int p1, .int p2, .int p3]))] H := hP
  have hD : va_D A [(h0, .inr (6, [.ref hj, .ref hpr, .ref hqd, .int 1, .int 1, .int 1])), (hj, .inl (cR, 8, .inr (.inr (.inr (.inr fj))))), (hpr, .inr (7, [.int p0, .int p1, .int p2, .int p3])), (hj0, .inr (7, [.int p0, .int p1, .int p2, .int p3]))] := hD
  refine W.widen (k := 0) (n := 0) (Nat.le_of_ble_eq_true rfl) (Nat.le_of_ble_eq_true rfl) ?_
  exact W.vret hx hb hr (fun t ht hW => ⟨⟨(), rfl, trivial, trivial⟩, hS.F ht⟩) hS.2.2 dX1_acceptMovedJoint_52
def v_c_X1_acceptNewJoint : List Cond := .code yX1_acceptNewJoint cX1_acceptNewJoint 1 none :: ([.fieldLink RX1 29 "VoussoirYard$Drawing" "count" "I", .fieldLink RX1 11 "VoussoirYard$Drawing" "joints" "[LVoussoirYard$Joint;"] ++ (wsX10 ++ (wsV RX1 72 RX1 yX1_acceptMovedJoint v_c_X1_acceptMovedJoint)))
set_option maxRecDepth 20000 in
theorem i_c_X1_acceptNewJoint : ∀ w ∈ v_c_X1_acceptNewJoint, w ∈ lw_tbl := List.forall_mem_cons.mpr ⟨List.mem_of_getElem? (i := 569) (by decide +kernel), List.forall_mem_append.mpr ⟨List.forall_mem_cons.mpr ⟨List.mem_of_getElem? (i := 151) (by decide +kernel), List.forall_mem_cons.mpr ⟨List.mem_of_getElem? (i := 148) (by decide +kernel), fun _ h => absurd h List.not_mem_nil⟩⟩, List.forall_mem_append.mpr ⟨inX1, (by unfold wsV; exact List.forall_mem_append.mpr ⟨List.forall_mem_cons.mpr ⟨List.mem_of_getElem? (i := 570) (by decide +kernel), List.forall_mem_cons.mpr ⟨List.mem_of_getElem? (i := 571) (by decide +kernel), List.forall_mem_cons.mpr ⟨List.mem_of_getElem? (i := 572) (by decide +kernel), List.forall_mem_cons.mpr ⟨List.mem_of_getElem? (i := 50) (by decide +kernel), fun _ h => absurd h List.not_mem_nil⟩⟩⟩⟩, i_c_X1_acceptMovedJoint⟩)⟩⟩⟩
set_option maxHeartbeats 4000000 in
set_option maxRecDepth 100000 in
theorem c_X1_acceptNewJoint (l : Launch) (dC : Nat → ClassId) (dI : Nat → Nat → Nat) (e0 : Nat) (h0 hj hpr hqd : Nat) (cR : ClassId) (hj0 : Nat) (fj : Nat → Option Nat) (p0 p1 p2 p3 : Int32) (sz : Nat) (hj0f : fj 0 = some hj0) : Met l yX1_acceptNewJoint v_c_X1_acceptNewJoint ({ frames := 2, cells := 0, slots := 0, locals := 46 }) (fz_P (dC, dI) e0 [(h0, .inr (6, [.ref hj, .ref hpr, .ref hqd, .int 0, .int 0, .int 1])), (hj, .inl (cR, 8, .inr (.inr (.inr (.inr fj))))), (hj0, .inr (7, [.int 0, .int 0, .int 0, .int 0])), (hpr, .inr (7, [.int p0, .int p1, .int p2, .int p3]))] [(cR, .object RX2)] sz (va_A [(h0, .inr (6, [.ref hj, .ref hpr, .ref hqd, .int 0, .int 0, .int 1])), (hj, .inl (cR, 8, .inr (.inr (.inr (.inr fj))))), (hj0, .inr (7, [.int 0, .int 0, .int 0, .int 0])), (hpr, .inr (7, [.int p0, .int p1, .int p2, .int p3]))] sz) [.ref h0]) (va_Qv (fun (u : Unit) => True) (fun (u : Unit) (t : State) => True) (va_A [(h0, .inr (6, [.ref hj, .ref hpr, .ref hqd, .int 0, .int 0, .int 1])), (hj, .inl (cR, 8, .inr (.inr (.inr (.inr fj))))), (hj0, .inr (7, [.int 0, .int 0, .int 0, .int 0])), (hpr, .inr (7, [.int p0, .int p1, .int p2, .int p3]))] sz)) 0 0 (va_A [(h0, .inr (6, [.ref hj, .ref hpr, .ref hqd, .int 0, .int 0, .int 1])), (hj, .inl (cR, 8, .inr (.inr (.inr (.inr fj))))), (hj0, .inr (7, [.int 0, .int 0, .int 0, .int 0])), (hpr, .inr (7, [.int p0, .int p1, .int p2, .int p3]))] sz) := by
  refine Met.ofW (cc := cX1_acceptNewJoint) (maxL := 1) (ret := none) (by decide) rfl ?_
  intro p e s m args below meth c s₁ B hml hv
  obtain ⟨rfl, hsz, hP, hK, hD0, hAm⟩ := hv
  have hx := B.exec
  have hb := B.bytes
  have hr := B.returns
  have hts := atoms_spec (ws := v_c_X1_acceptNewJoint) B.pre
  have hown : s.vm.findClass RX1 = some m.cls := findClass_of_methodNamed B.named
  have hlocks := B.notSynchronized
  subst hsz
  have hD := hD0.self (sz := s.heap.size)
  generalize hAe : va_A [(h0, .inr (6, [.ref hj, .ref hpr, .ref hqd, .int 0, .int 0, .int 1])), (hj, .inl (cR, 8, .inr (.inr (.inr (.inr fj))))), (hj0, .inr (7, [.int 0, .int 0, .int 0, .int 0])), (hpr, .inr (7, [.int p0, .int p1, .int p2, .int p3]))] s.heap.size = A at hD hAm ⊢
  have hA : ∀ q : Nat, s.heap.size ≤ q → A q := fun q h => by rw [← hAe]; exact Or.inr h
  have hS : va_S A s.heap s.heap [] := va_S.rf
  have hP : va_P (dC, dI) vwCl [(h0, .inr (6, [.ref hj, .ref hpr, .ref hqd, .int 0, .int 0, .int 1])), (hj, .inl (cR, 8, .inr (.inr (.inr (.inr fj))))), (hj0, .inr (7, [.int 0, .int 0, .int 0, .int 0])), (hpr, .inr (7, [.int p0, .int p1, .int p2, .int p3]))] s.heap := hP
  have hl := lv_entry ([.ref h0]) (n := 1) (Nat.le_of_ble_eq_true rfl)
  rw [lg_entry_eq]
  generalize (lg_sl ([.ref h0]) ++ List.replicate (1 - (lg_sl ([.ref h0])).length) Slot.unset).toArray = ls at hl ⊢
  have hl : lv_has ls 1 [(0, .ref h0)] := hl
  refine lv_aload_n hx hb dX1_acceptNewJoint_0 rfl (lv_at hl 0 rfl) ?_
  refine va_get (D := (dC, dI)) (ci := 6) (v := .int 0) (C := RX1) (T := TX1) (N := 6) hx hb hts (fun _ h9 => List.mem_cons_of_mem _ (List.mem_append_right _ (List.mem_append_left _ h9))) hown hK hP 0 rfl rfl 3 (by decide) (hts _ (List.mem_cons_of_mem _ (List.mem_append_left _ (List.mem_of_getElem? (i := 0) rfl)))) (fun _ h9 => h9) rfl dX1_acceptNewJoint_1 ?_
  refine lv_aload_n hx hb dX1_acceptNewJoint_4 rfl (lv_at hl 0 rfl) ?_
  refine va_get (D := (dC, dI)) (ci := 6) (v := .ref hj) (C := RX1) (T := TX1) (N := 6) hx hb hts (fun _ h9 => List.mem_cons_of_mem _ (List.mem_append_right _ (List.mem_append_left _ h9))) hown hK hP 0 rfl rfl 0 (by decide) (hts _ (List.mem_cons_of_mem _ (List.mem_append_left _ (List.mem_of_getElem? (i := 1) rfl)))) (fun _ h9 => h9) rfl dX1_acceptNewJoint_5 ?_
  refine va_alen hx hb hK hP 1 0 rfl rfl (v := 8) rfl dX1_acceptNewJoint_8 ?_
  refine lv_icmp_ge (tgt := 32) hx hb dX1_acceptNewJoint_9 (by decide) (fun c_9 => absurd c_9 (by decide)) (fun _ => ?_)
  refine lv_aload_n hx hb dX1_acceptNewJoint_12 rfl (lv_at hl 0 rfl) ?_
  refine lv_dup hx hb dX1_acceptNewJoint_13 rfl ?_
  refine va_get (D := (dC, dI)) (ci := 6) (v := .int 0) (C := RX1) (T := TX1) (N := 6) hx hb hts (fun _ h9 => List.mem_cons_of_mem _ (List.mem_append_right _ (List.mem_append_left _ h9))) hown hK hP 0 rfl rfl 3 (by decide) (hts _ (List.mem_cons_of_mem _ (List.mem_append_left _ (List.mem_of_getElem? (i := 0) rfl)))) (fun _ h9 => h9) rfl dX1_acceptNewJoint_14 ?_
  refine lv_iconst (v := 1) hx hb dX1_acceptNewJoint_17 (by decide) ?_
  refine lv_iadd hx hb dX1_acceptNewJoint_18 ?_
  refine lv_topi (fun z_9 e_9 => ?_)
  obtain rfl : 1 = z_9 := (e_9.trans (by decide)).symm
  refine va_put (D := (dC, dI)) (ci := 6) (v := .int 1) (ty := .int) (C := RX1) (T := TX1) (N := 6) hx hb hts (fun _ h9 => List.mem_cons_of_mem _ (List.mem_append_right _ (List.mem_append_left _ h9))) tyX1 tyX1_ok nmX1 hown hK hP hD hS 0 rfl rfl 3 (by decide) (hts _ (List.mem_cons_of_mem _ (List.mem_append_left _ (List.mem_of_getElem? (i := 0) rfl)))) (fun _ h9 => h9) rfl (by decide +kernel) rfl rfl (Nat.le_of_ble_eq_true rfl) dX1_acceptNewJoint_19 (fun H locs hP hD hS => ?_)
  have hP : va_P (dC, dI) vwCl [(h0, .inr (6, [.ref hj, .ref hpr, .ref hqd, .int 1, .int 0, .int 1])), (hj, .inl (cR, 8, .inr (.inr (.inr (.inr fj))))), (hj0, .inr (7, [.int 0, .int 0, .int 0, .int 0])), (hpr, .inr (7, [.int p0, .int p1, .int p2, .int p3]))] H := hP
  have hD : va_D A [(h0, .inr (6, [.ref hj, .ref hpr, .ref hqd, .int 1, .int 0, .int 1])), (hj, .inl (cR, 8, .inr (.inr (.inr (.inr fj))))), (hj0, .inr (7, [.int 0, .int 0, .int 0, .int 0])), (hpr, .inr (7, [.int p0, .int p1, .int p2, .int p3]))] := hD
  refine lv_aload_n hx hb dX1_acceptNewJoint_22 rfl (lv_at hl 0 rfl) ?_
  refine lv_aload_n hx hb dX1_acceptNewJoint_23 rfl (lv_at hl 0 rfl) ?_
  refine va_get (D := (dC, dI)) (ci := 6) (v := .int 1) (C := RX1) (T := TX1) (N := 6) hx hb hts (fun _ h9 => List.mem_cons_of_mem _ (List.mem_append_right _ (List.mem_append_left _ h9))) hown hK hP 0 rfl rfl 3 (by decide) (hts _ (List.mem_cons_of_mem _ (List.mem_append_left _ (List.mem_of_getElem? (i := 0) rfl)))) (fun _ h9 => h9) rfl dX1_acceptNewJoint_24 ?_
  refine lv_iconst (v := 1) hx hb dX1_acceptNewJoint_27 (by decide) ?_
  refine lv_isub hx hb dX1_acceptNewJoint_28 ?_
  refine lv_topi (fun z_9 e_9 => ?_)
  obtain rfl : 0 = z_9 := (e_9.trans (by decide)).symm
  have hPc := hP.sub (ws' := [(h0, .inr (6, [.ref hj, .ref hpr, .ref hqd, .int 1, .int 0, .int 1])), (hj, .inl (cR, 8, .inr (.inr (.inr (.inr fj))))), (hj0, .inr (7, [.int 0, .int 0, .int 0, .int 0])), (hpr, .inr (7, [.int p0, .int p1, .int p2, .int p3]))]) [0, 1, 2, 3] rfl
  have hDc := hD.sub (ws' := [(h0, .inr (6, [.ref hj, .ref hpr, .ref hqd, .int 1, .int 0, .int 1])), (hj, .inl (cR, 8, .inr (.inr (.inr (.inr fj))))), (hj0, .inr (7, [.int 0, .int 0, .int 0, .int 0])), (hpr, .inr (7, [.int p0, .int p1, .int p2, .int p3]))]) [0, 1, 2, 3] (by decide) rfl
  have hKc := hK.sub (tys' := [(cR, .object RX2)]) [0] rfl
  have hFc := va_free (wc := [(h0, .inr (6, [.ref hj, .ref hpr, .ref hqd, .int 1, .int 0, .int 1])), (hj, .inl (cR, 8, .inr (.inr (.inr (.inr fj))))), (hj0, .inr (7, [.int 0, .int 0, .int 0, .int 0])), (hpr, .inr (7, [.int p0, .int p1, .int p2, .int p3]))]) hD hS hA [0, 1, 2, 3] rfl
  refine va_callv (va_runV (As := [.int 0]) (rest := []) ⟨hx, hb, hml, hown, hts⟩ (c_X1_acceptMovedJoint l dC dI e0 h0 hj hpr hqd cR hj0 fj p0 p1 p2 p3 H.size hj0f) (cwV 1 hts (goodIn_sub (fun _ h9 => List.mem_cons_of_mem _ (List.mem_append_right _ (List.mem_append_right _ h9))) (by decide +kernel)) rfl rfl rfl (by decide +kernel) ⟨(Nat.le_of_ble_eq_true rfl), (Nat.le_of_ble_eq_true rfl)⟩) ⟨fz_blind, va_recv hKc hPc (ci := 6) (q0 := 0) rfl rfl, fz_pre hPc hKc hDc hAm hS hFc⟩ rfl rfl hl.1 rfl (lv_room (Nat.le_of_ble_eq_true rfl)) dX1_acceptNewJoint_29 ⟨(Nat.le_of_ble_eq_true rfl), (Nat.le_of_ble_eq_true rfl)⟩) hS (fun q _ h => hFc q h) hFc (fun u t H1 locs ht hvm hw hB hz1 hk1 hS => ?_)
  obtain ⟨hP, hD⟩ := fz_keepC (WC := [(h0, .inr (6, [.ref hj, .ref hpr, .ref hqd, .int 1, .int 0, .int 1])), (hj, .inl (cR, 8, .inr (.inr (.inr (.inr fj))))), (hj0, .inr (7, [.int 0, .int 0, .int 0, .int 0])), (hpr, .inr (7, [.int p0, .int p1, .int p2, .int p3]))]) (WR := []) hP hD [0, 1, 2, 3] [] rfl rfl (by decide) (by decide) hk1 hFc
  generalize H1 = H at hP hS ⊢
  have hP : va_P (dC, dI) vwCl [] H := hP
  have hD : va_D A [] := hD
  have hK : va_K (dC, dI) vwCl [(cR, .object RX2)] s := hK
  refine W.widen (k := 0) (n := 0) (Nat.le_of_ble_eq_true rfl) (Nat.le_of_ble_eq_true rfl) ?_
  refine W.widen (k := 0) (n := 0) (Nat.le_of_ble_eq_true rfl) (Nat.le_of_ble_eq_true rfl) ?_
  exact W.vret hx hb hr (fun t ht hW => ⟨⟨(), rfl, trivial, trivial⟩, hS.F ht⟩) hS.2.2 dX1_acceptNewJoint_32
def v_c_X1_areaOfAll : List Cond := .code yX1_areaOfAll cX1_areaOfAll 3 (some .int) :: ([] ++ (wsV RX1 45 RX1 yX1_placeCount v_c_X1_placeCount))
set_option maxRecDepth 20000 in
theorem i_c_X1_areaOfAll : ∀ w ∈ v_c_X1_areaOfAll, w ∈ lw_tbl := List.forall_mem_cons.mpr ⟨List.mem_of_getElem? (i := 335) (by decide +kernel), List.forall_mem_append.mpr ⟨fun _ h => absurd h List.not_mem_nil, (by unfold wsV; exact List.forall_mem_append.mpr ⟨List.forall_mem_cons.mpr ⟨List.mem_of_getElem? (i := 336) (by decide +kernel), List.forall_mem_cons.mpr ⟨List.mem_of_getElem? (i := 273) (by decide +kernel), List.forall_mem_cons.mpr ⟨List.mem_of_getElem? (i := 274) (by decide +kernel), List.forall_mem_cons.mpr ⟨List.mem_of_getElem? (i := 50) (by decide +kernel), fun _ h => absurd h List.not_mem_nil⟩⟩⟩⟩, i_c_X1_placeCount⟩)⟩⟩
set_option maxHeartbeats 4000000 in
set_option maxRecDepth 100000 in
theorem c_X1_areaOfAll (l : Launch) (dC : Nat → ClassId) (dI : Nat → Nat → Nat) (e0 : Nat) (h0 hj hpr hqd : Nat) (sz : Nat) : Met l yX1_areaOfAll v_c_X1_areaOfAll ({ frames := 2, cells := 0, slots := 0, locals := 50 }) (fz_P (dC, dI) e0 [(h0, .inr (6, [.ref hj, .ref hpr, .ref hqd, .int 0, .int 0, .int 1]))] [] sz (fun q : Nat => sz ≤ q) [.ref h0]) (va_Qi (fun (r : Int32) (u : Unit) => r = 0) (fun (u : Unit) (t : State) => True) (fun q : Nat => sz ≤ q)) 0 0 (fun q : Nat => sz ≤ q) := by
  refine Met.ofW (cc := cX1_areaOfAll) (maxL := 3) (ret := (some .int)) (by decide) rfl ?_
  intro p e s m args below meth c s₁ B hml hv
  obtain ⟨rfl, hsz, hP, hK, hD0, hAm⟩ := hv
  have hx := B.exec
  have hb := B.bytes
  have hr := B.returns
  have hts := atoms_spec (ws := v_c_X1_areaOfAll) B.pre
  have hown : s.vm.findClass RX1 = some m.cls := findClass_of_methodNamed B.named
  have hlocks := B.notSynchronized
  subst hsz
  have hD := hD0
  generalize hAe : (fun q : Nat => s.heap.size ≤ q) = A at hAm ⊢
  have hA : ∀ q : Nat, s.heap.size ≤ q → A q := fun q h => by rw [← hAe]; exact h
  have hS : va_S A s.heap s.heap [] := va_S.rf
  have hP : va_P (dC, dI) vwCl [(h0, .inr (6, [.ref hj, .ref hpr, .ref hqd, .int 0, .int 0, .int 1]))] s.heap := hP
  have hl := lv_entry ([.ref h0]) (n := 3) (Nat.le_of_ble_eq_true rfl)
  rw [lg_entry_eq]
  generalize (lg_sl ([.ref h0]) ++ List.replicate (3 - (lg_sl ([.ref h0])).length) Slot.unset).toArray = ls at hl ⊢
  have hl : lv_has ls 3 [(0, .ref h0)] := hl
  refine lv_iconst (v := 0) hx hb dX1_areaOfAll_0 (by decide) ?_
  refine lv_istore_n (lv' := [(1, .int 0), (0, .ref h0)]) hx hb dX1_areaOfAll_1 rfl hl (by decide) rfl (fun ls hl => ?_)
  refine lv_iconst (v := 0) hx hb dX1_areaOfAll_2 (by decide) ?_
  refine lv_istore_n (lv' := [(2, .int 0), (1, .int 0), (0, .ref h0)]) hx hb dX1_areaOfAll_3 rfl hl (by decide) rfl (fun ls hl => ?_)
  refine lv_iload_n hx hb dX1_areaOfAll_4 rfl (lv_at hl 0 rfl) ?_
  refine lv_aload_n hx hb dX1_areaOfAll_5 rfl (lv_at hl 2 rfl) ?_
  have hPc := hP.sub (ws' := [(h0, .inr (6, [.ref hj, .ref hpr, .ref hqd, .int 0, .int 0, .int 1]))]) [0] rfl
  have hDc := hD.sub (ws' := [(h0, .inr (6, [.ref hj, .ref hpr, .ref hqd, .int 0, .int 0, .int 1]))]) [0] (by decide) rfl
  have hKc := hK.sub (tys' := []) [] rfl
  have hFc : ∀ q : Nat, s.heap.size ≤ q → A q := fun q h => hA q (Nat.le_trans hS.1 h)
  refine va_calli (va_runV (As := []) (rest := [.int 0]) ⟨hx, hb, hml, hown, hts⟩ (c_X1_placeCount l dC dI e0 h0 hj hpr hqd s.heap.size) (cwV 0 hts (goodIn_sub (fun _ h9 => List.mem_cons_of_mem _ (List.mem_append_right _ (h9))) (by decide +kernel)) rfl rfl rfl (by decide +kernel) ⟨(Nat.le_of_ble_eq_true rfl), (Nat.le_of_ble_eq_true rfl)⟩) ⟨fz_blind, va_recv hKc hPc (ci := 6) (q0 := 0) rfl rfl, fz_pre hPc hKc hDc hAm hS hFc⟩ rfl rfl hl.1 rfl (lv_room (Nat.le_of_ble_eq_true rfl)) dX1_areaOfAll_6 ⟨(Nat.le_of_ble_eq_true rfl), (Nat.le_of_ble_eq_true rfl)⟩) hS (fun q _ h => hFc q h) hFc (fun r u t H1 locs ht hvm hw hB hz1 hk1 hS => ?_)
  obtain rfl := hw
  have hP := fz_keep hP hk1
  generalize H1 = H at hP hS ⊢
  have hP : va_P (dC, dI) vwCl [(h0, .inr (6, [.ref hj, .ref hpr, .ref hqd, .int 0, .int 0, .int 1]))] H := hP
  refine W.widen (k := 0) (n := 0) (Nat.le_of_ble_eq_true rfl) (Nat.le_of_ble_eq_true rfl) ?_
  refine lv_icmp_ge (tgt := 26) hx hb dX1_areaOfAll_9 (by decide) (fun _ => ?_) (fun c_9 => absurd (by decide) c_9)
  refine lv_iload_n hx hb dX1_areaOfAll_26 rfl (lv_at hl 1 rfl) ?_
  refine W.widen (k := 0) (n := 0) (Nat.le_of_ble_eq_true rfl) (Nat.le_of_ble_eq_true rfl) ?_
  exact W.iret (v := 0) hx hb hr (fun t ht hW => ⟨⟨0, (), rfl, rfl, trivial⟩, hS.F ht⟩) hS.2.2 dX1_areaOfAll_27
def v_c_X1_weightOfAll : List Cond := .code yX1_weightOfAll cX1_weightOfAll 3 (some .int) :: ([] ++ (wsV RX1 45 RX1 yX1_placeCount v_c_X1_placeCount))
set_option maxRecDepth 20000 in
theorem i_c_X1_weightOfAll : ∀ w ∈ v_c_X1_weightOfAll, w ∈ lw_tbl := List.forall_mem_cons.mpr ⟨List.mem_of_getElem? (i := 1200) (by decide +kernel), List.forall_mem_append.mpr ⟨fun _ h => absurd h List.not_mem_nil, (by unfold wsV; exact List.forall_mem_append.mpr ⟨List.forall_mem_cons.mpr ⟨List.mem_of_getElem? (i := 336) (by decide +kernel), List.forall_mem_cons.mpr ⟨List.mem_of_getElem? (i := 273) (by decide +kernel), List.forall_mem_cons.mpr ⟨List.mem_of_getElem? (i := 274) (by decide +kernel), List.forall_mem_cons.mpr ⟨List.mem_of_getElem? (i := 50) (by decide +kernel), fun _ h => absurd h List.not_mem_nil⟩⟩⟩⟩, i_c_X1_placeCount⟩)⟩⟩
set_option maxHeartbeats 4000000 in
set_option maxRecDepth 100000 in
theorem c_X1_weightOfAll (l : Launch) (dC : Nat → ClassId) (dI : Nat → Nat → Nat) (e0 : Nat) (h0 hj hpr hqd : Nat) (sz : Nat) : Met l yX1_weightOfAll v_c_X1_weightOfAll ({ frames := 2, cells := 0, slots := 0, locals := 50 }) (fz_P (dC, dI) e0 [(h0, .inr (6, [.ref hj, .ref hpr, .ref hqd, .int 0, .int 0, .int 1]))] [] sz (fun q : Nat => sz ≤ q) [.ref h0]) (va_Qi (fun (r : Int32) (u : Unit) => r = 0) (fun (u : Unit) (t : State) => True) (fun q : Nat => sz ≤ q)) 0 0 (fun q : Nat => sz ≤ q) := by
  refine Met.ofW (cc := cX1_weightOfAll) (maxL := 3) (ret := (some .int)) (by decide) rfl ?_
  intro p e s m args below meth c s₁ B hml hv
  obtain ⟨rfl, hsz, hP, hK, hD0, hAm⟩ := hv
  have hx := B.exec
  have hb := B.bytes
  have hr := B.returns
  have hts := atoms_spec (ws := v_c_X1_weightOfAll) B.pre
  have hown : s.vm.findClass RX1 = some m.cls := findClass_of_methodNamed B.named
  have hlocks := B.notSynchronized
  subst hsz
  have hD := hD0
  generalize hAe : (fun q : Nat => s.heap.size ≤ q) = A at hAm ⊢
  have hA : ∀ q : Nat, s.heap.size ≤ q → A q := fun q h => by rw [← hAe]; exact h
  have hS : va_S A s.heap s.heap [] := va_S.rf
  have hP : va_P (dC, dI) vwCl [(h0, .inr (6, [.ref hj, .ref hpr, .ref hqd, .int 0, .int 0, .int 1]))] s.heap := hP
  have hl := lv_entry ([.ref h0]) (n := 3) (Nat.le_of_ble_eq_true rfl)
  rw [lg_entry_eq]
  generalize (lg_sl ([.ref h0]) ++ List.replicate (3 - (lg_sl ([.ref h0])).length) Slot.unset).toArray = ls at hl ⊢
  have hl : lv_has ls 3 [(0, .ref h0)] := hl
  refine lv_iconst (v := 0) hx hb dX1_weightOfAll_0 (by decide) ?_
  refine lv_istore_n (lv' := [(1, .int 0), (0, .ref h0)]) hx hb dX1_weightOfAll_1 rfl hl (by decide) rfl (fun ls hl => ?_)
  refine lv_iconst (v := 0) hx hb dX1_weightOfAll_2 (by decide) ?_
  refine lv_istore_n (lv' := [(2, .int 0), (1, .int 0), (0, .ref h0)]) hx hb dX1_weightOfAll_3 rfl hl (by decide) rfl (fun ls hl => ?_)
  refine lv_iload_n hx hb dX1_weightOfAll_4 rfl (lv_at hl 0 rfl) ?_
  refine lv_aload_n hx hb dX1_weightOfAll_5 rfl (lv_at hl 2 rfl) ?_
  have hPc := hP.sub (ws' := [(h0, .inr (6, [.ref hj, .ref hpr, .ref hqd, .int 0, .int 0, .int 1]))]) [0] rfl
  have hDc := hD.sub (ws' := [(h0, .inr (6, [.ref hj, .ref hpr, .ref hqd, .int 0, .int 0, .int 1]))]) [0] (by decide) rfl
  have hKc := hK.sub (tys' := []) [] rfl
  have hFc : ∀ q : Nat, s.heap.size ≤ q → A q := fun q h => hA q (Nat.le_trans hS.1 h)
  refine va_calli (va_runV (As := []) (rest := [.int 0]) ⟨hx, hb, hml, hown, hts⟩ (c_X1_placeCount l dC dI e0 h0 hj hpr hqd s.heap.size) (cwV 0 hts (goodIn_sub (fun _ h9 => List.mem_cons_of_mem _ (List.mem_append_right _ (h9))) (by decide +kernel)) rfl rfl rfl (by decide +kernel) ⟨(Nat.le_of_ble_eq_true rfl), (Nat.le_of_ble_eq_true rfl)⟩) ⟨fz_blind, va_recv hKc hPc (ci := 6) (q0 := 0) rfl rfl, fz_pre hPc hKc hDc hAm hS hFc⟩ rfl rfl hl.1 rfl (lv_room (Nat.le_of_ble_eq_true rfl)) dX1_weightOfAll_6 ⟨(Nat.le_of_ble_eq_true rfl), (Nat.le_of_ble_eq_true rfl)⟩) hS (fun q _ h => hFc q h) hFc (fun r u t H1 locs ht hvm hw hB hz1 hk1 hS => ?_)
  obtain rfl := hw
  have hP := fz_keep hP hk1
  generalize H1 = H at hP hS ⊢
  have hP : va_P (dC, dI) vwCl [(h0, .inr (6, [.ref hj, .ref hpr, .ref hqd, .int 0, .int 0, .int 1]))] H := hP
  refine W.widen (k := 0) (n := 0) (Nat.le_of_ble_eq_true rfl) (Nat.le_of_ble_eq_true rfl) ?_
  refine lv_icmp_ge (tgt := 26) hx hb dX1_weightOfAll_9 (by decide) (fun _ => ?_) (fun c_9 => absurd (by decide) c_9)
  refine lv_iload_n hx hb dX1_weightOfAll_26 rfl (lv_at hl 1 rfl) ?_
  refine W.widen (k := 0) (n := 0) (Nat.le_of_ble_eq_true rfl) (Nat.le_of_ble_eq_true rfl) ?_
  exact W.iret (v := 0) hx hb hr (fun t ht hW => ⟨⟨0, (), rfl, rfl, trivial⟩, hS.F ht⟩) hS.2.2 dX1_weightOfAll_27
def v_c_X1_areaGoneRound : List Cond := .code yX1_areaGoneRound cX1_areaGoneRound 5 (some .int) :: ([.fieldLink RX1 29 "VoussoirYard$Drawing" "count" "I"] ++ (wsX10 ++ (wsV RX1 57 RX1 yX1_jointAt v_c_X1_jointAt)))
set_option maxRecDepth 20000 in
theorem i_c_X1_areaGoneRound : ∀ w ∈ v_c_X1_areaGoneRound, w ∈ lw_tbl := List.forall_mem_cons.mpr ⟨List.mem_of_getElem? (i := 357) (by decide +kernel), List.forall_mem_append.mpr ⟨List.forall_mem_cons.mpr ⟨List.mem_of_getElem? (i := 151) (by decide +kernel), fun _ h => absurd h List.not_mem_nil⟩, List.forall_mem_append.mpr ⟨inX1, (by unfold wsV; exact List.forall_mem_append.mpr ⟨List.forall_mem_cons.mpr ⟨List.mem_of_getElem? (i := 345) (by decide +kernel), List.forall_mem_cons.mpr ⟨List.mem_of_getElem? (i := 346) (by decide +kernel), List.forall_mem_cons.mpr ⟨List.mem_of_getElem? (i := 347) (by decide +kernel), List.forall_mem_cons.mpr ⟨List.mem_of_getElem? (i := 50) (by decide +kernel), fun _ h => absurd h List.not_mem_nil⟩⟩⟩⟩, i_c_X1_jointAt⟩)⟩⟩⟩
set_option maxHeartbeats 4000000 in
set_option maxRecDepth 100000 in
theorem c_X1_areaGoneRound (l : Launch) (dC : Nat → ClassId) (dI : Nat → Nat → Nat) (e0 : Nat) (h0 hj hpr hqd : Nat) (sz : Nat) : Met l yX1_areaGoneRound v_c_X1_areaGoneRound ({ frames := 1, cells := 0, slots := 0, locals := 21 }) (fz_P (dC, dI) e0 [(h0, .inr (6, [.ref hj, .ref hpr, .ref hqd, .int 0, .int 0, .int 1]))] [] sz (fun q : Nat => sz ≤ q) [.ref h0]) (va_Qi (fun (r : Int32) (u : Unit) => r = 0) (fun (u : Unit) (t : State) => True) (fun q : Nat => sz ≤ q)) 0 0 (fun q : Nat => sz ≤ q) := by
  refine Met.ofW (cc := cX1_areaGoneRound) (maxL := 5) (ret := (some .int)) (by decide) rfl ?_
  intro p e s m args below meth c s₁ B hml hv
  obtain ⟨rfl, hsz, hP, hK, hD0, hAm⟩ := hv
  have hx := B.exec
  have hb := B.bytes
  have hr := B.returns
  have hts := atoms_spec (ws := v_c_X1_areaGoneRound) B.pre
  have hown : s.vm.findClass RX1 = some m.cls := findClass_of_methodNamed B.named
  have hlocks := B.notSynchronized
  subst hsz
  have hD := hD0
  generalize hAe : (fun q : Nat => s.heap.size ≤ q) = A at hAm ⊢
  have hA : ∀ q : Nat, s.heap.size ≤ q → A q := fun q h => by rw [← hAe]; exact h
  have hS : va_S A s.heap s.heap [] := va_S.rf
  have hP : va_P (dC, dI) vwCl [(h0, .inr (6, [.ref hj, .ref hpr, .ref hqd, .int 0, .int 0, .int 1]))] s.heap := hP
  have hl := lv_entry ([.ref h0]) (n := 5) (Nat.le_of_ble_eq_true rfl)
  rw [lg_entry_eq]
  generalize (lg_sl ([.ref h0]) ++ List.replicate (5 - (lg_sl ([.ref h0])).length) Slot.unset).toArray = ls at hl ⊢
  have hl : lv_has ls 5 [(0, .ref h0)] := hl
  refine lv_iconst (v := 0) hx hb dX1_areaGoneRound_0 (by decide) ?_
  refine lv_istore_n (lv' := [(1, .int 0), (0, .ref h0)]) hx hb dX1_areaGoneRound_1 rfl hl (by decide) rfl (fun ls hl => ?_)
  refine lv_iconst (v := 0) hx hb dX1_areaGoneRound_2 (by decide) ?_
  refine lv_istore_n (lv' := [(2, .int 0), (1, .int 0), (0, .ref h0)]) hx hb dX1_areaGoneRound_3 rfl hl (by decide) rfl (fun ls hl => ?_)
  refine lv_iload_n hx hb dX1_areaGoneRound_4 rfl (lv_at hl 0 rfl) ?_
  refine lv_aload_n hx hb dX1_areaGoneRound_5 rfl (lv_at hl 2 rfl) ?_
  refine va_get (D := (dC, dI)) (ci := 6) (v := .int 0) (C := RX1) (T := TX1) (N := 6) hx hb hts (fun _ h9 => List.mem_cons_of_mem _ (List.mem_append_right _ (List.mem_append_left _ h9))) hown hK hP 0 rfl rfl 3 (by decide) (hts _ (List.mem_cons_of_mem _ (List.mem_append_left _ (List.mem_of_getElem? (i := 0) rfl)))) (fun _ h9 => h9) rfl dX1_areaGoneRound_6 ?_
  refine lv_icmp_ge (tgt := 90) hx hb dX1_areaGoneRound_9 (by decide) (fun _ => ?_) (fun c_9 => absurd (by decide) c_9)
  refine lv_aload_n hx hb dX1_areaGoneRound_90 rfl (lv_at hl 2 rfl) ?_
  refine lv_iconst (v := 0) hx hb dX1_areaGoneRound_91 (by decide) ?_
  have hPc := hP.sub (ws' := [(h0, .inr (6, [.ref hj, .ref hpr, .ref hqd, .int 0, .int 0, .int 1]))]) [0] rfl
  have hDc := hD.sub (ws' := [(h0, .inr (6, [.ref hj, .ref hpr, .ref hqd, .int 0, .int 0, .int 1]))]) [0] (by decide) rfl
  have hKc := hK.sub (tys' := []) [] rfl
  have hFc : ∀ q : Nat, s.heap.size ≤ q → A q := fun q h => hA q (Nat.le_trans hS.1 h)
  refine va_callq (va_runV (As := [.int 0]) (rest := []) ⟨hx, hb, hml, hown, hts⟩ (c_X1_jointAt l dC dI e0 h0 0 hj hpr hqd s.heap.size) (cwV 1 hts (goodIn_sub (fun _ h9 => List.mem_cons_of_mem _ (List.mem_append_right _ (List.mem_append_right _ h9))) (by decide +kernel)) rfl rfl rfl (by decide +kernel) ⟨(Nat.le_of_ble_eq_true rfl), (Nat.le_of_ble_eq_true rfl)⟩) ⟨fz_blind, va_recv hKc hPc (ci := 6) (q0 := 0) rfl rfl, fz_pre hPc hKc hDc hAm hS hFc⟩ rfl rfl hl.1 rfl (lv_room (Nat.le_of_ble_eq_true rfl)) dX1_areaGoneRound_92 ⟨(Nat.le_of_ble_eq_true rfl), (Nat.le_of_ble_eq_true rfl)⟩) hS (fun q _ h => hFc q h) hFc (fun r u t H1 locs ht hvm hw hB hz1 hk1 hS => ?_)
  obtain rfl := hw
  have hP := fz_keep hP hk1
  generalize H1 = H at hP hS ⊢
  have hP : va_P (dC, dI) vwCl [(h0, .inr (6, [.ref hj, .ref hpr, .ref hqd, .int 0, .int 0, .int 1]))] H := hP
  refine W.widen (k := 0) (n := 0) (Nat.le_of_ble_eq_true rfl) (Nat.le_of_ble_eq_true rfl) ?_
  refine lv_astore_nN (lv' := [(2, .null), (1, .int 0), (0, .ref h0)]) hx hb dX1_areaGoneRound_95 rfl hl (by decide) rfl (fun ls hl => ?_)
  refine lv_aload_n hx hb dX1_areaGoneRound_96 rfl (lv_at hl 2 rfl) ?_
  refine lv_aload_n hx hb dX1_areaGoneRound_97 rfl (lv_at hl 2 rfl) ?_
  refine va_get (D := (dC, dI)) (ci := 6) (v := .int 0) (C := RX1) (T := TX1) (N := 6) hx hb hts (fun _ h9 => List.mem_cons_of_mem _ (List.mem_append_right _ (List.mem_append_left _ h9))) hown hK hP 0 rfl rfl 3 (by decide) (hts _ (List.mem_cons_of_mem _ (List.mem_append_left _ (List.mem_of_getElem? (i := 0) rfl)))) (fun _ h9 => h9) rfl dX1_areaGoneRound_98 ?_
  refine lv_iconst (v := 1) hx hb dX1_areaGoneRound_101 (by decide) ?_
  refine lv_isub hx hb dX1_areaGoneRound_102 ?_
  refine lv_topi (fun z_9 e_9 => ?_)
  obtain rfl : (-1) = z_9 := (e_9.trans (by decide)).symm
  have hPc := hP.sub (ws' := [(h0, .inr (6, [.ref hj, .ref hpr, .ref hqd, .int 0, .int 0, .int 1]))]) [0] rfl
  have hDc := hD.sub (ws' := [(h0, .inr (6, [.ref hj, .ref hpr, .ref hqd, .int 0, .int 0, .int 1]))]) [0] (by decide) rfl
  have hKc := hK.sub (tys' := []) [] rfl
  have hFc : ∀ q : Nat, H.size ≤ q → A q := fun q h => hA q (Nat.le_trans hS.1 h)
  refine va_callq (va_runV (As := [.int (-1)]) (rest := []) ⟨hx, hb, hml, hown, hts⟩ (c_X1_jointAt l dC dI e0 h0 (-1) hj hpr hqd H.size) (cwV 1 hts (goodIn_sub (fun _ h9 => List.mem_cons_of_mem _ (List.mem_append_right _ (List.mem_append_right _ h9))) (by decide +kernel)) rfl rfl rfl (by decide +kernel) ⟨(Nat.le_of_ble_eq_true rfl), (Nat.le_of_ble_eq_true rfl)⟩) ⟨fz_blind, va_recv hKc hPc (ci := 6) (q0 := 0) rfl rfl, fz_pre hPc hKc hDc hAm hS hFc⟩ rfl rfl hl.1 rfl (lv_room (Nat.le_of_ble_eq_true rfl)) dX1_areaGoneRound_103 ⟨(Nat.le_of_ble_eq_true rfl), (Nat.le_of_ble_eq_true rfl)⟩) hS (fun q _ h => hFc q h) hFc (fun r u t H1 locs ht hvm hw hB hz1 hk1 hS => ?_)
  obtain rfl := hw
  have hP := fz_keep hP hk1
  generalize H1 = H at hP hS ⊢
  have hP : va_P (dC, dI) vwCl [(h0, .inr (6, [.ref hj, .ref hpr, .ref hqd, .int 0, .int 0, .int 1]))] H := hP
  refine W.widen (k := 0) (n := 0) (Nat.le_of_ble_eq_true rfl) (Nat.le_of_ble_eq_true rfl) ?_
  refine lv_astore_nN (lv' := [(3, .null), (2, .null), (1, .int 0), (0, .ref h0)]) hx hb dX1_areaGoneRound_106 rfl hl (by decide) rfl (fun ls hl => ?_)
  refine lv_aload_nN hx hb dX1_areaGoneRound_107 rfl (lv_at hl 1 rfl) ?_
  refine lv_ifnullN (tgt := 159) hx hb dX1_areaGoneRound_108 (by decide) ?_
  refine lv_iload_n hx hb dX1_areaGoneRound_159 rfl (lv_at hl 2 rfl) ?_
  refine W.widen (k := 0) (n := 0) (Nat.le_of_ble_eq_true rfl) (Nat.le_of_ble_eq_true rfl) ?_
  exact W.iret (v := 0) hx hb hr (fun t ht hW => ⟨⟨0, (), rfl, rfl, trivial⟩, hS.F ht⟩) hS.2.2 dX1_areaGoneRound_160
