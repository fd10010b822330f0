def v_c_X7_isSafe : List Cond := .code yX7_isSafe cX7_isSafe 2 (some .boolean) :: ([.fieldLink RX7 10 "VoussoirYard" "drawing" "LVoussoirYard$Drawing;"] ++ (wsS RX7 160 yX7_isGrip v_c_X7_isGrip ++ (wsX70 ++ (wsV RX7 145 RX1 yX1_placeCount v_c_X1_placeCount ++ (nz_w ++ (fz_w_IllegalArgument))))))
set_option maxRecDepth 20000 in
theorem i_c_X7_isSafe : ∀ w ∈ v_c_X7_isSafe, w ∈ lw_tbl := List.forall_mem_cons.mpr ⟨List.mem_of_getElem? (i := 665) (by decide +kernel), List.forall_mem_append.mpr ⟨List.forall_mem_cons.mpr ⟨List.mem_of_getElem? (i := 219) (by decide +kernel), fun _ h => absurd h List.not_mem_nil⟩, List.forall_mem_append.mpr ⟨(by unfold wsS; exact List.forall_mem_append.mpr ⟨List.forall_mem_cons.mpr ⟨List.mem_of_getElem? (i := 666) (by decide +kernel), List.forall_mem_cons.mpr ⟨List.mem_of_getElem? (i := 667) (by decide +kernel), List.forall_mem_cons.mpr ⟨List.mem_of_getElem? (i := 49) (by decide +kernel), fun _ h => absurd h List.not_mem_nil⟩⟩⟩, i_c_X7_isGrip⟩), List.forall_mem_append.mpr ⟨inX7, List.forall_mem_append.mpr ⟨(by unfold wsV; exact List.forall_mem_append.mpr ⟨List.forall_mem_cons.mpr ⟨List.mem_of_getElem? (i := 272) (by decide +kernel), List.forall_mem_cons.mpr ⟨List.mem_of_getElem? (i := 273) (by decide +kernel), List.forall_mem_cons.mpr ⟨List.mem_of_getElem? (i := 274) (by decide +kernel), List.forall_mem_cons.mpr ⟨List.mem_of_getElem? (i := 50) (by decide +kernel), fun _ h => absurd h List.not_mem_nil⟩⟩⟩⟩, i_c_X1_placeCount⟩), List.forall_mem_append.mpr ⟨nz_wi, fz_wi_IllegalArgument⟩⟩⟩⟩⟩⟩
set_option maxHeartbeats 4000000 in
set_option maxRecDepth 100000 in
theorem c_X7_isSafe (l : Launch) (dC : Nat → ClassId) (dI : Nat → Nat → Nat) (e0 : Nat) (hlT : l.stackTraces = false) (h0 : Nat) (p0 : Int32) (hd hse hki hma hst hsp hlp htl hj hpr hqd : Nat) (sz : Nat) : vx_Met l yX7_isSafe v_c_X7_isSafe ({ frames := 7, cells := 1, slots := 6, locals := 100 }) (fz_P (dC, dI) e0 [(h0, .inr (12, [.ref hd, .ref hse, .ref hki, .ref hma, .ref hst, .ref hsp, .ref hlp, .ref htl, .int 0, .int 0, .int 0, .int 0, .int 0, .int 0, .int 0, .long ((0 : Int32).toInt64)])), (hd, .inr (6, [.ref hj, .ref hpr, .ref hqd, .int 0, .int 0, .int 1]))] [] sz (fun q : Nat => sz ≤ q) [.ref h0, .int p0]) (va_Qi (fun (r : Int32) (u : Unit) => False) (fun (u : Unit) (t : State) => True) (fun q : Nat => sz ≤ q)) (vx_X (fun _ : Unit => True) (fun (E : String) (_ : Unit) (_ : State) => (E = "java/lang/IllegalArgumentException" ∧ ¬ fz_in p0 0 10) ∨ (E = "java/util/NoSuchElementException" ∧ fz_in p0 0 10)) (fun q : Nat => sz ≤ q)) 1 6 (fun q : Nat => sz ≤ q) := by
  refine vx_ofW (cc := cX7_isSafe) (maxL := 2) (ret := (some .boolean)) (by decide) rfl ?_
  intro p e s m args below meth c s₁ B hml htab hv
  obtain ⟨rfl, hsz, hP, hK, hD0, hAm⟩ := hv
  have hx := B.exec
  have hb := B.bytes
  have hr := B.returns
  have hts := atoms_spec (ws := v_c_X7_isSafe) B.pre
  have hown : s.vm.findClass RX7 = some m.cls := findClass_of_methodNamed B.named
  have hlocks := B.notSynchronized
  subst hsz
  have hD := hD0
  generalize hAe : (fun q : Nat => s.heap.size ≤ q) = A at hAm ⊢
  have hA : ∀ q : Nat, s.heap.size ≤ q → A q := fun q h => by rw [← hAe]; exact h
  have hS : va_S A s.heap s.heap [] := va_S.rf
  have hP : va_P (dC, dI) vwCl [(h0, .inr (12, [.ref hd, .ref hse, .ref hki, .ref hma, .ref hst, .ref hsp, .ref hlp, .ref htl, .int 0, .int 0, .int 0, .int 0, .int 0, .int 0, .int 0, .long ((0 : Int32).toInt64)])), (hd, .inr (6, [.ref hj, .ref hpr, .ref hqd, .int 0, .int 0, .int 1]))] s.heap := hP
  have hl := lv_entry ([.ref h0, .int p0]) (n := 2) (Nat.le_of_ble_eq_true rfl)
  rw [lg_entry_eq]
  generalize (lg_sl ([.ref h0, .int p0]) ++ List.replicate (2 - (lg_sl ([.ref h0, .int p0])).length) Slot.unset).toArray = ls at hl ⊢
  have hl : lv_has ls 2 [(0, .ref h0), (1, .int p0)] := hl
  refine lv_iload_n hx hb dX7_isSafe_0 rfl (lv_at hl 1 rfl) ?_
  have hPc := hP.sub (ws' := []) [] rfl
  have hDc := hD.sub (ws' := []) [] (by decide) rfl
  have hKc := hK.sub (tys' := []) [] rfl
  have hFc : ∀ q : Nat, s.heap.size ≤ q → A q := fun q h => hA q (Nat.le_trans hS.1 h)
  refine va_calli (va_runS (As := [.int p0]) (rest := []) ⟨hx, hb, hml, hown, hts⟩ (c_X7_isGrip l dC dI e0 p0 s.heap.size) (cwS 1 hts (goodIn_sub (fun _ h9 => List.mem_cons_of_mem _ (List.mem_append_right _ (List.mem_append_left _ h9))) (by decide +kernel)) rfl rfl rfl (by decide +kernel) ⟨(Nat.le_of_ble_eq_true rfl), (Nat.le_of_ble_eq_true rfl)⟩) ⟨fz_blind, fz_pre hPc hKc hDc hAm hS hFc⟩ rfl rfl hl.1 rfl (lv_room (Nat.le_of_ble_eq_true rfl)) dX7_isSafe_1 ⟨(Nat.le_of_ble_eq_true rfl), (Nat.le_of_ble_eq_true rfl)⟩) hS (fun q _ h => hFc q h) hFc (fun r u t H1 locs ht hvm hw hB hz1 hk1 hS => ?_)
  rcases hw with ⟨rfl, hp_1⟩ | ⟨rfl, hp_2⟩
  · have hP := fz_keep hP hk1
    generalize H1 = H at hP hS ⊢
    have hP : va_P (dC, dI) vwCl [(h0, .inr (12, [.ref hd, .ref hse, .ref hki, .ref hma, .ref hst, .ref hsp, .ref hlp, .ref htl, .int 0, .int 0, .int 0, .int 0, .int 0, .int 0, .int 0, .long ((0 : Int32).toInt64)])), (hd, .inr (6, [.ref hj, .ref hpr, .ref hqd, .int 0, .int 0, .int 1]))] H := hP
    refine W.widen (k := 0) (n := 0) (Nat.le_of_ble_eq_true rfl) (Nat.le_of_ble_eq_true rfl) ?_
    refine lv_if_ne (tgt := 17) hx hb dX7_isSafe_4 (by decide) (fun _ => ?_) (fun c_9 => absurd c_9 (by decide))
    refine lv_aload_n hx hb dX7_isSafe_17 rfl (lv_at hl 0 rfl) ?_
    refine va_get (D := (dC, dI)) (ci := 12) (v := .ref hd) (C := RX7) (T := TX7) (N := 16) hx hb hts (fun _ h9 => List.mem_cons_of_mem _ (List.mem_append_right _ (List.mem_append_right _ (List.mem_append_left _ h9)))) hown hK hP 0 rfl rfl 0 (by decide) (hts _ (List.mem_cons_of_mem _ (List.mem_append_left _ (List.mem_of_getElem? (i := 0) rfl)))) (fun _ h9 => h9) rfl dX7_isSafe_18 ?_
    have hPc := hP.sub (ws' := [(hd, .inr (6, [.ref hj, .ref hpr, .ref hqd, .int 0, .int 0, .int 1]))]) [1] rfl
    have hDc := hD.sub (ws' := [(hd, .inr (6, [.ref hj, .ref hpr, .ref hqd, .int 0, .int 0, .int 1]))]) [1] (by decide) rfl
    have hKc := hK.sub (tys' := []) [] rfl
    have hFc : ∀ q : Nat, H.size ≤ q → A q := fun q h => hA q (Nat.le_trans hS.1 h)
    refine va_calli (va_runV (As := []) (rest := []) ⟨hx, hb, hml, hown, hts⟩ (c_X1_placeCount l dC dI e0 hd hj hpr hqd H.size) (cwV 0 hts (goodIn_sub (fun _ h9 => List.mem_cons_of_mem _ (List.mem_append_right _ (List.mem_append_right _ (List.mem_append_right _ (List.mem_append_left _ h9))))) (by decide +kernel)) rfl rfl rfl (by decide +kernel) ⟨(Nat.le_of_ble_eq_true rfl), (Nat.le_of_ble_eq_true rfl)⟩) ⟨fz_blind, va_recv hKc hPc (ci := 6) (q0 := 0) rfl rfl, fz_pre hPc hKc hDc hAm hS hFc⟩ rfl rfl hl.1 rfl (lv_room (Nat.le_of_ble_eq_true rfl)) dX7_isSafe_21 ⟨(Nat.le_of_ble_eq_true rfl), (Nat.le_of_ble_eq_true rfl)⟩) hS (fun q _ h => hFc q h) hFc (fun r u t H1 locs ht hvm hw hB hz1 hk1 hS => ?_)
    obtain rfl := hw
    have hP := fz_keep hP hk1
    generalize H1 = H at hP hS ⊢
    have hP : va_P (dC, dI) vwCl [(h0, .inr (12, [.ref hd, .ref hse, .ref hki, .ref hma, .ref hst, .ref hsp, .ref hlp, .ref htl, .int 0, .int 0, .int 0, .int 0, .int 0, .int 0, .int 0, .long ((0 : Int32).toInt64)])), (hd, .inr (6, [.ref hj, .ref hpr, .ref hqd, .int 0, .int 0, .int 1]))] H := hP
    refine W.widen (k := 0) (n := 0) (Nat.le_of_ble_eq_true rfl) (Nat.le_of_ble_eq_true rfl) ?_
    refine lv_iconst (v := 2) hx hb dX7_isSafe_24 (by decide) ?_
    refine lv_icmp_ge (tgt := 38) hx hb dX7_isSafe_25 (by decide) (fun c_9 => absurd c_9 (by decide)) (fun _ => ?_)
    obtain ⟨sa_9, hst_9⟩ := hAm.1.2.2.2.2.2.1 _ fz_s_167
    have hq_9 : ∀ w ∈ nz_w, w.before _ s = true := fun w h9 => hts w (List.mem_cons_of_mem _ (List.mem_append_right _ (List.mem_append_right _ (List.mem_append_right _ (List.mem_append_right _ (List.mem_append_left _ h9))))))
    exact nz_throw (text := "there are less than 2 places") (is := 167) (sa := sa_9) hx hb hlT hown hq_9 hAm.1 hst_9 hAm.2.1 hAm.2.2.1 hS (hl.1.trans hml.symm) dX7_isSafe_28 dX7_isSafe_31 dX7_isSafe_32 dX7_isSafe_34 dX7_isSafe_37 (fun x h9 => (htab x h9).elim) (by decide) (by decide) (Nat.le_of_ble_eq_true rfl) (Nat.le_of_ble_eq_true rfl) hlocks (fun t _ h1_9 h2_9 => ⟨(), trivial, Or.inr (⟨rfl, hp_1⟩), fz_xF hS h1_9 h2_9⟩) hS.2.2 (Nat.le_of_ble_eq_true rfl) (Nat.le_of_ble_eq_true rfl)
  · have hP := fz_keep hP hk1
    generalize H1 = H at hP hS ⊢
    have hP : va_P (dC, dI) vwCl [(h0, .inr (12, [.ref hd, .ref hse, .ref hki, .ref hma, .ref hst, .ref hsp, .ref hlp, .ref htl, .int 0, .int 0, .int 0, .int 0, .int 0, .int 0, .int 0, .long ((0 : Int32).toInt64)])), (hd, .inr (6, [.ref hj, .ref hpr, .ref hqd, .int 0, .int 0, .int 1]))] H := hP
    refine W.widen (k := 0) (n := 0) (Nat.le_of_ble_eq_true rfl) (Nat.le_of_ble_eq_true rfl) ?_
    refine lv_if_ne (tgt := 17) hx hb dX7_isSafe_4 (by decide) (fun c_9 => absurd (by decide) c_9) (fun _ => ?_)
    obtain ⟨sa_9, hst_9⟩ := hAm.1.2.2.2.2.2.1 _ fz_s_163
    have hq_9 : ∀ w ∈ fz_w_IllegalArgument, w.before _ s = true := fun w h9 => hts w (List.mem_cons_of_mem _ (List.mem_append_right _ (List.mem_append_right _ (List.mem_append_right _ (List.mem_append_right _ (List.mem_append_right _ h9))))))
    exact vx_throwS (cls := "java/lang/IllegalArgumentException") (text := "the grip is out of range") (names := ["java/lang/RuntimeException", "java/lang/Exception"]) (ik := 85) (is := 163) (ic := 89) (sa := sa_9) hx hb hlT hown (by decide +kernel) fz_nm_IllegalArgument (hq_9 _ List.mem_cons_self) (hq_9 _ (List.mem_cons_of_mem _ List.mem_cons_self)) hst_9 (fz_wf (ik := 0) hq_9 (fun _ h9 => List.mem_cons_of_mem _ (List.mem_cons_of_mem _ h9)) fz_ng_IllegalArgument (hAm.1.2.1 _ fz_x_IllegalArgument) hAm.1) fz_ot_IllegalArgument hAm.2.1 hAm.2.2.1 hS (hl.1.trans hml.symm) dX7_isSafe_7 dX7_isSafe_10 dX7_isSafe_11 dX7_isSafe_13 dX7_isSafe_16 (fun x h9 => (htab x h9).elim) (by decide) (by decide) (Nat.le_of_ble_eq_true rfl) (Nat.le_of_ble_eq_true rfl) hlocks (fun t _ h1_9 h2_9 => ⟨(), trivial, Or.inl (⟨rfl, hp_2⟩), fz_xF hS h1_9 h2_9⟩) hS.2.2 (Nat.le_of_ble_eq_true rfl) (Nat.le_of_ble_eq_true rfl)
def v_c_X7_thrust : List Cond := .code yX7_thrust cX7_thrust 2 (some .long) :: ([.fieldLink RX7 10 "VoussoirYard" "drawing" "LVoussoirYard$Drawing;"] ++ (wsS RX7 160 yX7_isGrip v_c_X7_isGrip ++ (wsX70 ++ (wsV RX7 145 RX1 yX1_placeCount v_c_X1_placeCount ++ (nz_w ++ (fz_w_IllegalArgument))))))
set_option maxRecDepth 20000 in
theorem i_c_X7_thrust : ∀ w ∈ v_c_X7_thrust, w ∈ lw_tbl := List.forall_mem_cons.mpr ⟨List.mem_of_getElem? (i := 692) (by decide +kernel), List.forall_mem_append.mpr ⟨List.forall_mem_cons.mpr ⟨List.mem_of_getElem? (i := 219) (by decide +kernel), fun _ h => absurd h List.not_mem_nil⟩, List.forall_mem_append.mpr ⟨(by unfold wsS; exact List.forall_mem_append.mpr ⟨List.forall_mem_cons.mpr ⟨List.mem_of_getElem? (i := 666) (by decide +kernel), List.forall_mem_cons.mpr ⟨List.mem_of_getElem? (i := 667) (by decide +kernel), List.forall_mem_cons.mpr ⟨List.mem_of_getElem? (i := 49) (by decide +kernel), fun _ h => absurd h List.not_mem_nil⟩⟩⟩, i_c_X7_isGrip⟩), List.forall_mem_append.mpr ⟨inX7, List.forall_mem_append.mpr ⟨(by unfold wsV; exact List.forall_mem_append.mpr ⟨List.forall_mem_cons.mpr ⟨List.mem_of_getElem? (i := 272) (by decide +kernel), List.forall_mem_cons.mpr ⟨List.mem_of_getElem? (i := 273) (by decide +kernel), List.forall_mem_cons.mpr ⟨List.mem_of_getElem? (i := 274) (by decide +kernel), List.forall_mem_cons.mpr ⟨List.mem_of_getElem? (i := 50) (by decide +kernel), fun _ h => absurd h List.not_mem_nil⟩⟩⟩⟩, i_c_X1_placeCount⟩), List.forall_mem_append.mpr ⟨nz_wi, fz_wi_IllegalArgument⟩⟩⟩⟩⟩⟩
set_option maxHeartbeats 4000000 in
set_option maxRecDepth 100000 in
theorem c_X7_thrust (l : Launch) (dC : Nat → ClassId) (dI : Nat → Nat → Nat) (e0 : Nat) (hlT : l.stackTraces = false) (h0 : Nat) (p0 : Int32) (hd hse hki hma hst hsp hlp htl hj hpr hqd : Nat) (sz : Nat) : vx_Met l yX7_thrust v_c_X7_thrust ({ frames := 7, cells := 1, slots := 6, locals := 100 }) (fz_P (dC, dI) e0 [(h0, .inr (12, [.ref hd, .ref hse, .ref hki, .ref hma, .ref hst, .ref hsp, .ref hlp, .ref htl, .int 0, .int 0, .int 0, .int 0, .int 0, .int 0, .int 0, .long ((0 : Int32).toInt64)])), (hd, .inr (6, [.ref hj, .ref hpr, .ref hqd, .int 0, .int 0, .int 1]))] [] sz (fun q : Nat => sz ≤ q) [.ref h0, .int p0]) (va_Ql (fun (r : Int64) (u : Unit) => False) (fun (u : Unit) (t : State) => True) (fun q : Nat => sz ≤ q)) (vx_X (fun _ : Unit => True) (fun (E : String) (_ : Unit) (_ : State) => (E = "java/lang/IllegalArgumentException" ∧ ¬ fz_in p0 0 10) ∨ (E = "java/util/NoSuchElementException" ∧ fz_in p0 0 10)) (fun q : Nat => sz ≤ q)) 1 6 (fun q : Nat => sz ≤ q) := by
  refine vx_ofW (cc := cX7_thrust) (maxL := 2) (ret := (some .long)) (by decide) rfl ?_
  intro p e s m args below meth c s₁ B hml htab hv
  obtain ⟨rfl, hsz, hP, hK, hD0, hAm⟩ := hv
  have hx := B.exec
  have hb := B.bytes
  have hr := B.returns
  have hts := atoms_spec (ws := v_c_X7_thrust) B.pre
  have hown : s.vm.findClass RX7 = some m.cls := findClass_of_methodNamed B.named
  have hlocks := B.notSynchronized
  subst hsz
  have hD := hD0
  generalize hAe : (fun q : Nat => s.heap.size ≤ q) = A at hAm ⊢
  have hA : ∀ q : Nat, s.heap.size ≤ q → A q := fun q h => by rw [← hAe]; exact h
  have hS : va_S A s.heap s.heap [] := va_S.rf
  have hP : va_P (dC, dI) vwCl [(h0, .inr (12, [.ref hd, .ref hse, .ref hki, .ref hma, .ref hst, .ref hsp, .ref hlp, .ref htl, .int 0, .int 0, .int 0, .int 0, .int 0, .int 0, .int 0, .long ((0 : Int32).toInt64)])), (hd, .inr (6, [.ref hj, .ref hpr, .ref hqd, .int 0, .int 0, .int 1]))] s.heap := hP
  have hl := lv_entry ([.ref h0, .int p0]) (n := 2) (Nat.le_of_ble_eq_true rfl)
  rw [lg_entry_eq]
  generalize (lg_sl ([.ref h0, .int p0]) ++ List.replicate (2 - (lg_sl ([.ref h0, .int p0])).length) Slot.unset).toArray = ls at hl ⊢
  have hl : lv_has ls 2 [(0, .ref h0), (1, .int p0)] := hl
  refine lv_iload_n hx hb dX7_thrust_0 rfl (lv_at hl 1 rfl) ?_
  have hPc := hP.sub (ws' := []) [] rfl
  have hDc := hD.sub (ws' := []) [] (by decide) rfl
  have hKc := hK.sub (tys' := []) [] rfl
  have hFc : ∀ q : Nat, s.heap.size ≤ q → A q := fun q h => hA q (Nat.le_trans hS.1 h)
  refine va_calli (va_runS (As := [.int p0]) (rest := []) ⟨hx, hb, hml, hown, hts⟩ (c_X7_isGrip l dC dI e0 p0 s.heap.size) (cwS 1 hts (goodIn_sub (fun _ h9 => List.mem_cons_of_mem _ (List.mem_append_right _ (List.mem_append_left _ h9))) (by decide +kernel)) rfl rfl rfl (by decide +kernel) ⟨(Nat.le_of_ble_eq_true rfl), (Nat.le_of_ble_eq_true rfl)⟩) ⟨fz_blind, fz_pre hPc hKc hDc hAm hS hFc⟩ rfl rfl hl.1 rfl (lv_room (Nat.le_of_ble_eq_true rfl)) dX7_thrust_1 ⟨(Nat.le_of_ble_eq_true rfl), (Nat.le_of_ble_eq_true rfl)⟩) hS (fun q _ h => hFc q h) hFc (fun r u t H1 locs ht hvm hw hB hz1 hk1 hS => ?_)
  rcases hw with ⟨rfl, hp_1⟩ | ⟨rfl, hp_2⟩
  · have hP := fz_keep hP hk1
    generalize H1 = H at hP hS ⊢
    have hP : va_P (dC, dI) vwCl [(h0, .inr (12, [.ref hd, .ref hse, .ref hki, .ref hma, .ref hst, .ref hsp, .ref hlp, .ref htl, .int 0, .int 0, .int 0, .int 0, .int 0, .int 0, .int 0, .long ((0 : Int32).toInt64)])), (hd, .inr (6, [.ref hj, .ref hpr, .ref hqd, .int 0, .int 0, .int 1]))] H := hP
    refine W.widen (k := 0) (n := 0) (Nat.le_of_ble_eq_true rfl) (Nat.le_of_ble_eq_true rfl) ?_
    refine lv_if_ne (tgt := 17) hx hb dX7_thrust_4 (by decide) (fun _ => ?_) (fun c_9 => absurd c_9 (by decide))
    refine lv_aload_n hx hb dX7_thrust_17 rfl (lv_at hl 0 rfl) ?_
    refine va_get (D := (dC, dI)) (ci := 12) (v := .ref hd) (C := RX7) (T := TX7) (N := 16) hx hb hts (fun _ h9 => List.mem_cons_of_mem _ (List.mem_append_right _ (List.mem_append_right _ (List.mem_append_left _ h9)))) hown hK hP 0 rfl rfl 0 (by decide) (hts _ (List.mem_cons_of_mem _ (List.mem_append_left _ (List.mem_of_getElem? (i := 0) rfl)))) (fun _ h9 => h9) rfl dX7_thrust_18 ?_
    have hPc := hP.sub (ws' := [(hd, .inr (6, [.ref hj, .ref hpr, .ref hqd, .int 0, .int 0, .int 1]))]) [1] rfl
    have hDc := hD.sub (ws' := [(hd, .inr (6, [.ref hj, .ref hpr, .ref hqd, .int 0, .int 0, .int 1]))]) [1] (by decide) rfl
    have hKc := hK.sub (tys' := []) [] rfl
    have hFc : ∀ q : Nat, H.size ≤ q → A q := fun q h => hA q (Nat.le_trans hS.1 h)
    refine va_calli (va_runV (As := []) (rest := []) ⟨hx, hb, hml, hown, hts⟩ (c_X1_placeCount l dC dI e0 hd hj hpr hqd H.size) (cwV 0 hts (goodIn_sub (fun _ h9 => List.mem_cons_of_mem _ (List.mem_append_right _ (List.mem_append_right _ (List.mem_append_right _ (List.mem_append_left _ h9))))) (by decide +kernel)) rfl rfl rfl (by decide +kernel) ⟨(Nat.le_of_ble_eq_true rfl), (Nat.le_of_ble_eq_true rfl)⟩) ⟨fz_blind, va_recv hKc hPc (ci := 6) (q0 := 0) rfl rfl, fz_pre hPc hKc hDc hAm hS hFc⟩ rfl rfl hl.1 rfl (lv_room (Nat.le_of_ble_eq_true rfl)) dX7_thrust_21 ⟨(Nat.le_of_ble_eq_true rfl), (Nat.le_of_ble_eq_true rfl)⟩) hS (fun q _ h => hFc q h) hFc (fun r u t H1 locs ht hvm hw hB hz1 hk1 hS => ?_)
    obtain rfl := hw
    have hP := fz_keep hP hk1
    generalize H1 = H at hP hS ⊢
    have hP : va_P (dC, dI) vwCl [(h0, .inr (12, [.ref hd, .ref hse, .ref hki, .ref hma, .ref hst, .ref hsp, .ref hlp, .ref htl, .int 0, .int 0, .int 0, .int 0, .int 0, .int 0, .int 0, .long ((0 : Int32).toInt64)])), (hd, .inr (6, [.ref hj, .ref hpr, .ref hqd, .int 0, .int 0, .int 1]))] H := hP
    refine W.widen (k := 0) (n := 0) (Nat.le_of_ble_eq_true rfl) (Nat.le_of_ble_eq_true rfl) ?_
    refine lv_iconst (v := 2) hx hb dX7_thrust_24 (by decide) ?_
    refine lv_icmp_ge (tgt := 38) hx hb dX7_thrust_25 (by decide) (fun c_9 => absurd c_9 (by decide)) (fun _ => ?_)
    obtain ⟨sa_9, hst_9⟩ := hAm.1.2.2.2.2.2.1 _ fz_s_167
    have hq_9 : ∀ w ∈ nz_w, w.before _ s = true := fun w h9 => hts w (List.mem_cons_of_mem _ (List.mem_append_right _ (List.mem_append_right _ (List.mem_append_right _ (List.mem_append_right _ (List.mem_append_left _ h9))))))
    exact nz_throw (text := "there are less than 2 places") (is := 167) (sa := sa_9) hx hb hlT hown hq_9 hAm.1 hst_9 hAm.2.1 hAm.2.2.1 hS (hl.1.trans hml.symm) dX7_thrust_28 dX7_thrust_31 dX7_thrust_32 dX7_thrust_34 dX7_thrust_37 (fun x h9 => (htab x h9).elim) (by decide) (by decide) (Nat.le_of_ble_eq_true rfl) (Nat.le_of_ble_eq_true rfl) hlocks (fun t _ h1_9 h2_9 => ⟨(), trivial, Or.inr (⟨rfl, hp_1⟩), fz_xF hS h1_9 h2_9⟩) hS.2.2 (Nat.le_of_ble_eq_true rfl) (Nat.le_of_ble_eq_true rfl)
  · have hP := fz_keep hP hk1
    generalize H1 = H at hP hS ⊢
    have hP : va_P (dC, dI) vwCl [(h0, .inr (12, [.ref hd, .ref hse, .ref hki, .ref hma, .ref hst, .ref hsp, .ref hlp, .ref htl, .int 0, .int 0, .int 0, .int 0, .int 0, .int 0, .int 0, .long ((0 : Int32).toInt64)])), (hd, .inr (6, [.ref hj, .ref hpr, .ref hqd, .int 0, .int 0, .int 1]))] H := hP
    refine W.widen (k := 0) (n := 0) (Nat.le_of_ble_eq_true rfl) (Nat.le_of_ble_eq_true rfl) ?_
    refine lv_if_ne (tgt := 17) hx hb dX7_thrust_4 (by decide) (fun c_9 => absurd (by decide) c_9) (fun _ => ?_)
    obtain ⟨sa_9, hst_9⟩ := hAm.1.2.2.2.2.2.1 _ fz_s_163
    have hq_9 : ∀ w ∈ fz_w_IllegalArgument, w.before _ s = true := fun w h9 => hts w (List.mem_cons_of_mem _ (List.mem_append_right _ (List.mem_append_right _ (List.mem_append_right _ (List.mem_append_right _ (List.mem_append_right _ h9))))))
    exact vx_throwS (cls := "java/lang/IllegalArgumentException") (text := "the grip is out of range") (names := ["java/lang/RuntimeException", "java/lang/Exception"]) (ik := 85) (is := 163) (ic := 89) (sa := sa_9) hx hb hlT hown (by decide +kernel) fz_nm_IllegalArgument (hq_9 _ List.mem_cons_self) (hq_9 _ (List.mem_cons_of_mem _ List.mem_cons_self)) hst_9 (fz_wf (ik := 0) hq_9 (fun _ h9 => List.mem_cons_of_mem _ (List.mem_cons_of_mem _ h9)) fz_ng_IllegalArgument (hAm.1.2.1 _ fz_x_IllegalArgument) hAm.1) fz_ot_IllegalArgument hAm.2.1 hAm.2.2.1 hS (hl.1.trans hml.symm) dX7_thrust_7 dX7_thrust_10 dX7_thrust_11 dX7_thrust_13 dX7_thrust_16 (fun x h9 => (htab x h9).elim) (by decide) (by decide) (Nat.le_of_ble_eq_true rfl) (Nat.le_of_ble_eq_true rfl) hlocks (fun t _ h1_9 h2_9 => ⟨(), trivial, Or.inl (⟨rfl, hp_2⟩), fz_xF hS h1_9 h2_9⟩) hS.2.2 (Nat.le_of_ble_eq_true rfl) (Nat.le_of_ble_eq_true rfl)
def v_c_X11_thrown2 : List Cond := .code yX11_thrown cX11_thrown 1 (some .int) :: ([.fieldLink RX11 39 "VoussoirYardModel" "thrown" "I"] ++ (wsX110))
set_option maxRecDepth 20000 in
theorem i_c_X11_thrown2 : ∀ w ∈ v_c_X11_thrown2, w ∈ lw_tbl := List.forall_mem_cons.mpr ⟨List.mem_of_getElem? (i := 1379) (by decide +kernel), List.forall_mem_append.mpr ⟨List.forall_mem_cons.mpr ⟨List.mem_of_getElem? (i := 1330) (by decide +kernel), fun _ h => absurd h List.not_mem_nil⟩, inX11⟩⟩
set_option maxHeartbeats 4000000 in
set_option maxRecDepth 100000 in
theorem c_X11_thrown2 (l : Launch) (dC : Nat → ClassId) (dI : Nat → Nat → Nat) (e0 : Nat) (g0 mj mq mm ms mf ml : Nat) (th x1 x2 x4 x3 : Int32) (sz : Nat) : Met l yX11_thrown v_c_X11_thrown2 ({ frames := 0, cells := 0, slots := 0, locals := 0 }) (fz_P (dC, dI) e0 [(g0, .inr (16, [.ref mj, .ref mq, .ref mm, .ref ms, .ref mf, .ref ml, .int th, .int x1, .int x2, .int x4, .int x3, .int 0, .int 0, .int 0, .int 0, .int 0, .long 0]))] [] sz (fun q : Nat => sz ≤ q) [.ref g0]) (va_Qi (fun (r : Int32) (u : Unit) => r = th) (fun (u : Unit) (t : State) => True) (fun q : Nat => sz ≤ q)) 0 0 (fun q : Nat => sz ≤ q) := by
  refine Met.ofW (cc := cX11_thrown) (maxL := 1) (ret := (some .int)) (by decide) rfl ?_
  intro p e s m args below meth c s₁ B hml hv
  obtain ⟨rfl, hsz, hP, hK, hD0, hAm⟩ := hv
  have hx := B.exec
  have hb := B.bytes
  have hr := B.returns
  have hts := atoms_spec (ws := v_c_X11_thrown2) B.pre
  have hown : s.vm.findClass RX11 = some m.cls := findClass_of_methodNamed B.named
  have hlocks := B.notSynchronized
  subst hsz
  have hD := hD0
  generalize hAe : (fun q : Nat => s.heap.size ≤ q) = A at hAm ⊢
  have hA : ∀ q : Nat, s.heap.size ≤ q → A q := fun q h => by rw [← hAe]; exact h
  have hS : va_S A s.heap s.heap [] := va_S.rf
  have hP : va_P (dC, dI) vwCl [(g0, .inr (16, [.ref mj, .ref mq, .ref mm, .ref ms, .ref mf, .ref ml, .int th, .int x1, .int x2, .int x4, .int x3, .int 0, .int 0, .int 0, .int 0, .int 0, .long 0]))] s.heap := hP
  have hl := lv_entry ([.ref g0]) (n := 1) (Nat.le_of_ble_eq_true rfl)
  rw [lg_entry_eq]
  generalize (lg_sl ([.ref g0]) ++ List.replicate (1 - (lg_sl ([.ref g0])).length) Slot.unset).toArray = ls at hl ⊢
  have hl : lv_has ls 1 [(0, .ref g0)] := hl
  refine lv_aload_n hx hb dX11_thrown_0 rfl (lv_at hl 0 rfl) ?_
  refine va_get (D := (dC, dI)) (ci := 16) (v := .int th) (C := RX11) (T := TX11) (N := 17) hx hb hts (fun _ h9 => List.mem_cons_of_mem _ (List.mem_append_right _ (h9))) hown hK hP 0 rfl rfl 6 (by decide) (hts _ (List.mem_cons_of_mem _ (List.mem_append_left _ (List.mem_of_getElem? (i := 0) rfl)))) (fun _ h9 => h9) rfl dX11_thrown_1 ?_
  refine W.widen (k := 0) (n := 0) (Nat.le_of_ble_eq_true rfl) (Nat.le_of_ble_eq_true rfl) ?_
  exact W.iret (v := th) hx hb hr (fun t ht hW => ⟨⟨th, (), rfl, rfl, trivial⟩, hS.F ht⟩) hS.2.2 dX11_thrown_4
