def v_c_L_drawJoint : List Cond := .codeWith yL_drawJoint cL_drawJoint 7 (some .int) [(0, 14, 17, 13), (0, 14, 21, 15), (0, 14, 25, 17)] :: ([.classLink RL 13 "java/lang/IllegalArgumentException"] ++ (wsV RL 7 RX7 yX7_drawJoint v_c_X7_drawJoint))
set_option maxRecDepth 20000 in
theorem i_c_L_drawJoint : ∀ w ∈ v_c_L_drawJoint, w ∈ lw_tbl := List.forall_mem_cons.mpr ⟨List.mem_of_getElem? (i := 426) (by decide +kernel), List.forall_mem_append.mpr ⟨List.forall_mem_cons.mpr ⟨List.mem_of_getElem? (i := 427) (by decide +kernel), fun _ h => absurd h List.not_mem_nil⟩, (by unfold wsV; exact List.forall_mem_append.mpr ⟨List.forall_mem_cons.mpr ⟨List.mem_of_getElem? (i := 430) (by decide +kernel), List.forall_mem_cons.mpr ⟨List.mem_of_getElem? (i := 431) (by decide +kernel), List.forall_mem_cons.mpr ⟨List.mem_of_getElem? (i := 432) (by decide +kernel), List.forall_mem_cons.mpr ⟨List.mem_of_getElem? (i := 49) (by decide +kernel), fun _ h => absurd h List.not_mem_nil⟩⟩⟩⟩, i_c_X7_drawJoint⟩)⟩⟩
set_option maxHeartbeats 4000000 in
set_option maxRecDepth 100000 in
theorem c_L_drawJoint (l : Launch) (dC : Nat → ClassId) (dI : Nat → Nat → Nat) (e0 : Nat) (hlT : l.stackTraces = false) (h0 : Nat) (p0 p1 p2 p3 : Int32) (ao hd hse hki hma hst hsp hlp htl hj hpr hqd : Nat) (cR : ClassId) (hj0 : Nat) (fj : Nat → Option Nat) (cI : ClassId) (fsp : Nat → Int32) (cJ : ClassId) (fo : Nat → Int64) (sz : Nat) (hj0f : fj 0 = some hj0) (hspf : ∀ j : Nat, j < 8 → fsp j = -1) : Met l yL_drawJoint v_c_L_drawJoint ({ frames := 8, cells := 1, slots := 6, locals := 125 }) (fz_P (dC, dI) e0 [(h0, .inr (12, [.ref hd, .ref hse, .ref hki, .ref hma, .ref hst, .ref hsp, .ref hlp, .ref htl, .int 0, .int 0, .int 0, .int 0, .int 0, .int 0, .int 0, .long ((0 : Int32).toInt64)])), (hd, .inr (6, [.ref hj, .ref hpr, .ref hqd, .int 0, .int 0, .int 1])), (hj, .inl (cR, 8, .inr (.inr (.inr (.inr fj))))), (hj0, .inr (7, [.int 0, .int 0, .int 0, .int 0])), (hpr, .inr (7, [.int 0, .int 0, .int 0, .int 0])), (hsp, .inl (cI, 8, .inl fsp)), (ao, .inl (cJ, 1, .inr (.inl fo)))] [(cR, .object RX2), (cI, .int), (cJ, .long)] sz (va_A [(h0, .inr (12, [.ref hd, .ref hse, .ref hki, .ref hma, .ref hst, .ref hsp, .ref hlp, .ref htl, .int 0, .int 0, .int 0, .int 0, .int 0, .int 0, .int 0, .long ((0 : Int32).toInt64)])), (hd, .inr (6, [.ref hj, .ref hpr, .ref hqd, .int 0, .int 0, .int 1])), (hj, .inl (cR, 8, .inr (.inr (.inr (.inr fj))))), (hj0, .inr (7, [.int 0, .int 0, .int 0, .int 0])), (hpr, .inr (7, [.int 0, .int 0, .int 0, .int 0])), (hsp, .inl (cI, 8, .inl fsp)), (ao, .inl (cJ, 1, .inr (.inl fo)))] sz) [.ref h0, .int p0, .int p1, .int p2, .int p3, .ref ao]) (va_Qi (fun (r : Int32) (u : Int64) => (r = 0 ∧ u = (0 : Int32).toInt64 ∧ fz_v p0 p1 p2 p3) ∨ (r = 1 ∧ ¬ fz_v p0 p1 p2 p3)) (fun (u : Int64) (t : State) => ∃ fo2 : Nat → Int64, (fo2 0 = u) ∧ va_P (dC, dI) vwCl [(ao, .inl (cJ, 1, .inr (.inl fo2)))] t.heap ∧ va_K (dC, dI) vwCl [(cJ, .long)] t ∧ va_D (va_A [(h0, .inr (12, [.ref hd, .ref hse, .ref hki, .ref hma, .ref hst, .ref hsp, .ref hlp, .ref htl, .int 0, .int 0, .int 0, .int 0, .int 0, .int 0, .int 0, .long ((0 : Int32).toInt64)])), (hd, .inr (6, [.ref hj, .ref hpr, .ref hqd, .int 0, .int 0, .int 1])), (hj, .inl (cR, 8, .inr (.inr (.inr (.inr fj))))), (hj0, .inr (7, [.int 0, .int 0, .int 0, .int 0])), (hpr, .inr (7, [.int 0, .int 0, .int 0, .int 0])), (hsp, .inl (cI, 8, .inl fsp)), (ao, .inl (cJ, 1, .inr (.inl fo)))] sz) [(ao, .inl (cJ, 1, .inr (.inl fo2)))]) (va_A [(h0, .inr (12, [.ref hd, .ref hse, .ref hki, .ref hma, .ref hst, .ref hsp, .ref hlp, .ref htl, .int 0, .int 0, .int 0, .int 0, .int 0, .int 0, .int 0, .long ((0 : Int32).toInt64)])), (hd, .inr (6, [.ref hj, .ref hpr, .ref hqd, .int 0, .int 0, .int 1])), (hj, .inl (cR, 8, .inr (.inr (.inr (.inr fj))))), (hj0, .inr (7, [.int 0, .int 0, .int 0, .int 0])), (hpr, .inr (7, [.int 0, .int 0, .int 0, .int 0])), (hsp, .inl (cI, 8, .inl fsp)), (ao, .inl (cJ, 1, .inr (.inl fo)))] sz)) 1 6 (va_A [(h0, .inr (12, [.ref hd, .ref hse, .ref hki, .ref hma, .ref hst, .ref hsp, .ref hlp, .ref htl, .int 0, .int 0, .int 0, .int 0, .int 0, .int 0, .int 0, .long ((0 : Int32).toInt64)])), (hd, .inr (6, [.ref hj, .ref hpr, .ref hqd, .int 0, .int 0, .int 1])), (hj, .inl (cR, 8, .inr (.inr (.inr (.inr fj))))), (hj0, .inr (7, [.int 0, .int 0, .int 0, .int 0])), (hpr, .inr (7, [.int 0, .int 0, .int 0, .int 0])), (hsp, .inl (cI, 8, .inl fsp)), (ao, .inl (cJ, 1, .inr (.inl fo)))] sz) := by
  refine va_MetW (cc := cL_drawJoint) (maxL := 7) (ret := (some .int)) (by decide) rfl ?_
  intro p e s m args below meth c s₁ B hml hv
  obtain ⟨rfl, hsz, hP, hK, hD0, hAm⟩ := hv
  have hx := B.exec
  have hb := B.bytes
  have hr := B.returns
  have hts := atoms_spec (ws := v_c_L_drawJoint) B.pre
  have hown : s.vm.findClass RL = some m.cls := findClass_of_methodNamed B.named
  have hlocks := B.notSynchronized
  have htab := vx_table (x := yL_drawJoint) B (hts _ List.mem_cons_self)
  subst hsz
  have hD := hD0.self (sz := s.heap.size)
  generalize hAe : va_A [(h0, .inr (12, [.ref hd, .ref hse, .ref hki, .ref hma, .ref hst, .ref hsp, .ref hlp, .ref htl, .int 0, .int 0, .int 0, .int 0, .int 0, .int 0, .int 0, .long ((0 : Int32).toInt64)])), (hd, .inr (6, [.ref hj, .ref hpr, .ref hqd, .int 0, .int 0, .int 1])), (hj, .inl (cR, 8, .inr (.inr (.inr (.inr fj))))), (hj0, .inr (7, [.int 0, .int 0, .int 0, .int 0])), (hpr, .inr (7, [.int 0, .int 0, .int 0, .int 0])), (hsp, .inl (cI, 8, .inl fsp)), (ao, .inl (cJ, 1, .inr (.inl fo)))] s.heap.size = A at hD hAm ⊢
  have hA : ∀ q : Nat, s.heap.size ≤ q → A q := fun q h => by rw [← hAe]; exact Or.inr h
  have hS : va_S A s.heap s.heap [] := va_S.rf
  have hP : va_P (dC, dI) vwCl [(h0, .inr (12, [.ref hd, .ref hse, .ref hki, .ref hma, .ref hst, .ref hsp, .ref hlp, .ref htl, .int 0, .int 0, .int 0, .int 0, .int 0, .int 0, .int 0, .long ((0 : Int32).toInt64)])), (hd, .inr (6, [.ref hj, .ref hpr, .ref hqd, .int 0, .int 0, .int 1])), (hj, .inl (cR, 8, .inr (.inr (.inr (.inr fj))))), (hj0, .inr (7, [.int 0, .int 0, .int 0, .int 0])), (hpr, .inr (7, [.int 0, .int 0, .int 0, .int 0])), (hsp, .inl (cI, 8, .inl fsp)), (ao, .inl (cJ, 1, .inr (.inl fo)))] s.heap := hP
  have hl := lv_entry ([.ref h0, .int p0, .int p1, .int p2, .int p3, .ref ao]) (n := 7) (Nat.le_of_ble_eq_true rfl)
  rw [lg_entry_eq]
  generalize (lg_sl ([.ref h0, .int p0, .int p1, .int p2, .int p3, .ref ao]) ++ List.replicate (7 - (lg_sl ([.ref h0, .int p0, .int p1, .int p2, .int p3, .ref ao])).length) Slot.unset).toArray = ls at hl ⊢
  have hl : lv_has ls 7 [(0, .ref h0), (1, .int p0), (2, .int p1), (3, .int p2), (4, .int p3), (5, .ref ao)] := hl
  refine lv_aload hx hb dL_drawJoint_0 (lv_at hl 5 rfl) ?_
  refine lv_iconst (v := 0) hx hb dL_drawJoint_2 (by decide) ?_
  refine lv_aload_n hx hb dL_drawJoint_3 rfl (lv_at hl 0 rfl) ?_
  refine lv_iload_n hx hb dL_drawJoint_4 rfl (lv_at hl 1 rfl) ?_
  refine lv_iload_n hx hb dL_drawJoint_5 rfl (lv_at hl 2 rfl) ?_
  refine lv_iload_n hx hb dL_drawJoint_6 rfl (lv_at hl 3 rfl) ?_
  refine lv_iload hx hb dL_drawJoint_7 (lv_at hl 4 rfl) ?_
  have hPc := hP.sub (ws' := [(h0, .inr (12, [.ref hd, .ref hse, .ref hki, .ref hma, .ref hst, .ref hsp, .ref hlp, .ref htl, .int 0, .int 0, .int 0, .int 0, .int 0, .int 0, .int 0, .long ((0 : Int32).toInt64)])), (hd, .inr (6, [.ref hj, .ref hpr, .ref hqd, .int 0, .int 0, .int 1])), (hj, .inl (cR, 8, .inr (.inr (.inr (.inr fj))))), (hj0, .inr (7, [.int 0, .int 0, .int 0, .int 0])), (hpr, .inr (7, [.int 0, .int 0, .int 0, .int 0])), (hsp, .inl (cI, 8, .inl fsp))]) [0, 1, 2, 3, 4, 5] rfl
  have hDc := hD.sub (ws' := [(h0, .inr (12, [.ref hd, .ref hse, .ref hki, .ref hma, .ref hst, .ref hsp, .ref hlp, .ref htl, .int 0, .int 0, .int 0, .int 0, .int 0, .int 0, .int 0, .long ((0 : Int32).toInt64)])), (hd, .inr (6, [.ref hj, .ref hpr, .ref hqd, .int 0, .int 0, .int 1])), (hj, .inl (cR, 8, .inr (.inr (.inr (.inr fj))))), (hj0, .inr (7, [.int 0, .int 0, .int 0, .int 0])), (hpr, .inr (7, [.int 0, .int 0, .int 0, .int 0])), (hsp, .inl (cI, 8, .inl fsp))]) [0, 1, 2, 3, 4, 5] (by decide) rfl
  have hKc := hK.sub (tys' := [(cR, .object RX2), (cI, .int)]) [0, 1] rfl
  have hFc := va_free (wc := [(h0, .inr (12, [.ref hd, .ref hse, .ref hki, .ref hma, .ref hst, .ref hsp, .ref hlp, .ref htl, .int 0, .int 0, .int 0, .int 0, .int 0, .int 0, .int 0, .long ((0 : Int32).toInt64)])), (hd, .inr (6, [.ref hj, .ref hpr, .ref hqd, .int 0, .int 0, .int 1])), (hj, .inl (cR, 8, .inr (.inr (.inr (.inr fj))))), (hj0, .inr (7, [.int 0, .int 0, .int 0, .int 0])), (hpr, .inr (7, [.int 0, .int 0, .int 0, .int 0])), (hsp, .inl (cI, 8, .inl fsp))]) hD hS hA [0, 1, 2, 3, 4, 5] rfl
  refine vx_calli (vx_runV (As := [.int p0, .int p1, .int p2, .int p3]) (rest := [.int 0, .ref ao]) ⟨hx, hb, hml, hown, hts⟩ (c_X7_drawJoint l dC dI e0 hlT h0 p0 p1 p2 p3 hd hse hki hma hst hsp hlp htl hj hpr hqd cR hj0 fj cI fsp s.heap.size hj0f hspf) (cwV 4 hts (goodIn_sub (fun _ h9 => List.mem_cons_of_mem _ (List.mem_append_right _ (h9))) (by decide +kernel)) rfl rfl rfl (by decide +kernel) ⟨(Nat.le_of_ble_eq_true rfl), (Nat.le_of_ble_eq_true rfl)⟩) ⟨fz_blind, va_recv hKc hPc (ci := 12) (q0 := 0) rfl rfl, fz_pre hPc hKc hDc hAm hS hFc⟩ rfl rfl hl.1 rfl (lv_room (Nat.le_of_ble_eq_true rfl)) dL_drawJoint_9 ⟨(Nat.le_of_ble_eq_true rfl), (Nat.le_of_ble_eq_true rfl)⟩) hS (fun q _ h => hFc q h) hFc (fun q _ h => hFc q h) (fun E ce q9 u t H1 locs ht hvm hpx hBX hz1 hk1 hS hce hcv hcl => ?_) (fun r u t H1 locs ht hvm hw hB hz1 hk1 hS => ?_)
  · obtain ⟨rfl, hp_1⟩ := hBX
    obtain ⟨hP, hD⟩ := fz_keepC (WC := [(h0, .inr (12, [.ref hd, .ref hse, .ref hki, .ref hma, .ref hst, .ref hsp, .ref hlp, .ref htl, .int 0, .int 0, .int 0, .int 0, .int 0, .int 0, .int 0, .long ((0 : Int32).toInt64)])), (hd, .inr (6, [.ref hj, .ref hpr, .ref hqd, .int 0, .int 0, .int 1])), (hj, .inl (cR, 8, .inr (.inr (.inr (.inr fj))))), (hj0, .inr (7, [.int 0, .int 0, .int 0, .int 0])), (hpr, .inr (7, [.int 0, .int 0, .int 0, .int 0])), (hsp, .inl (cI, 8, .inl fsp))]) (WR := [(ao, .inl (cJ, 1, .inr (.inl fo)))]) hP hD [0, 1, 2, 3, 4, 5] [6] rfl rfl (by decide) (by decide) hk1 hFc
    generalize H1 = H at hP hS hce ⊢
    have hP : va_P (dC, dI) vwCl [(ao, .inl (cJ, 1, .inr (.inl fo)))] H := hP
    have hD : va_D A [(ao, .inl (cJ, 1, .inr (.inl fo)))] := hD
    have hK : va_K (dC, dI) vwCl [(cR, .object RX2), (cI, .int), (cJ, .long)] s := hK
    refine vx_widen (k := 1) (n := 6) (Nat.le_of_ble_eq_true rfl) (Nat.le_of_ble_eq_true rfl) ?_
    refine vx_catch (own := RL) (name := "java/lang/IllegalArgumentException") hown [] ⟨0, 14, 17, 13⟩ [⟨0, 14, 21, 15⟩, ⟨0, 14, 25, 17⟩] htab (fun z hz => nomatch hz) (by decide) (by decide) (hts _ (List.mem_cons_of_mem _ (List.mem_append_left _ (List.mem_of_getElem? (i := 0) rfl)))) (hAm.1.2.1 _ fz_x_IllegalArgument).use hce hcv hcl ?_
    refine W.eq (g2 := F0 m 17 ls [.ref q9]) rfl ?_
    refine lv_astore (lv' := [(6, .ref q9), (0, .ref h0), (1, .int p0), (2, .int p1), (3, .int p2), (4, .int p3), (5, .ref ao)]) hx hb dL_drawJoint_17 hl (by decide) rfl (fun ls hl => ?_)
    refine lv_iconst (v := 1) hx hb dL_drawJoint_19 (by decide) ?_
    have hP9 := hP.sub (ws' := [(ao, .inl (cJ, 1, .inr (.inl fo)))]) [0] rfl
    have hD9 := hD.sub (ws' := [(ao, .inl (cJ, 1, .inr (.inl fo)))]) [0] (by decide) rfl
    have hK9 := hK.sub (tys' := [(cJ, .long)]) [2] rfl
    refine W.widen (k := 1) (n := 6) (Nat.le_of_ble_eq_true rfl) (Nat.le_of_ble_eq_true rfl) ?_
    exact W.iret (v := 1) hx hb hr (fun t ht hW => ⟨⟨1, (fo 0), rfl, Or.inr (⟨rfl, hp_1⟩), ⟨fo, (by first | rfl | simp [vp_updL]), by rw [ht]; exact hP9, va_K.moved hW.alike hK9, hD9⟩⟩, hS.F ht⟩) hS.2.2 dL_drawJoint_20
  · obtain ⟨rfl, hp_2⟩ := hw
    obtain ⟨hP, hD⟩ := fz_keepC (WC := [(h0, .inr (12, [.ref hd, .ref hse, .ref hki, .ref hma, .ref hst, .ref hsp, .ref hlp, .ref htl, .int 0, .int 0, .int 0, .int 0, .int 0, .int 0, .int 0, .long ((0 : Int32).toInt64)])), (hd, .inr (6, [.ref hj, .ref hpr, .ref hqd, .int 0, .int 0, .int 1])), (hj, .inl (cR, 8, .inr (.inr (.inr (.inr fj))))), (hj0, .inr (7, [.int 0, .int 0, .int 0, .int 0])), (hpr, .inr (7, [.int 0, .int 0, .int 0, .int 0])), (hsp, .inl (cI, 8, .inl fsp))]) (WR := [(ao, .inl (cJ, 1, .inr (.inl fo)))]) hP hD [0, 1, 2, 3, 4, 5] [6] rfl rfl (by decide) (by decide) hk1 hFc
    generalize H1 = H at hP hS ⊢
    have hP : va_P (dC, dI) vwCl [(ao, .inl (cJ, 1, .inr (.inl fo)))] H := hP
    have hD : va_D A [(ao, .inl (cJ, 1, .inr (.inl fo)))] := hD
    have hK : va_K (dC, dI) vwCl [(cR, .object RX2), (cI, .int), (cJ, .long)] s := hK
    refine W.widen (k := 1) (n := 6) (Nat.le_of_ble_eq_true rfl) (Nat.le_of_ble_eq_true rfl) ?_
    refine lv_i2l (v := (0 : Int32).toInt64) hx hb dL_drawJoint_12 rfl ?_
    refine va_last hx hb hK hP hD hS 0 2 rfl rfl (fz_il (by decide)) dL_drawJoint_13 (fun H locs hP hD hS => ?_)
    have hP : va_P (dC, dI) vwCl [(ao, .inl (cJ, 1, .inr (.inl (vp_updL fo (0 : Int32).toNatClampNeg ((0 : Int32).toInt64)))))] H := hP
    have hD : va_D A [(ao, .inl (cJ, 1, .inr (.inl (vp_updL fo (0 : Int32).toNatClampNeg ((0 : Int32).toInt64)))))] := hD
    refine lv_goto (tgt := 29) hx hb dL_drawJoint_14 (by decide) ?_
    refine lv_iconst (v := 0) hx hb dL_drawJoint_29 (by decide) ?_
    have hP9 := hP.sub (ws' := [(ao, .inl (cJ, 1, .inr (.inl (vp_updL fo (0 : Int32).toNatClampNeg ((0 : Int32).toInt64)))))]) [0] rfl
    have hD9 := hD.sub (ws' := [(ao, .inl (cJ, 1, .inr (.inl (vp_updL fo (0 : Int32).toNatClampNeg ((0 : Int32).toInt64)))))]) [0] (by decide) rfl
    have hK9 := hK.sub (tys' := [(cJ, .long)]) [2] rfl
    refine W.widen (k := 1) (n := 6) (Nat.le_of_ble_eq_true rfl) (Nat.le_of_ble_eq_true rfl) ?_
    exact W.iret (v := 0) hx hb hr (fun t ht hW => ⟨⟨0, ((0 : Int32).toInt64), rfl, Or.inl (⟨rfl, rfl, hp_2⟩), ⟨(vp_updL fo (0 : Int32).toNatClampNeg ((0 : Int32).toInt64)), (by first | rfl | simp [vp_updL]), by rw [ht]; exact hP9, va_K.moved hW.alike hK9, hD9⟩⟩, hS.F ht⟩) hS.2.2 dL_drawJoint_30
def v_c_L_moveJoint : List Cond := .codeWith yL_moveJoint cL_moveJoint 8 (some .int) [(0, 16, 19, 23), (0, 16, 23, 13), (0, 16, 27, 15)] :: ([.classLink RL 23 "java/lang/IndexOutOfBoundsException"] ++ (wsV RL 19 RX7 yX7_moveJoint v_c_X7_moveJoint))
set_option maxRecDepth 20000 in
theorem i_c_L_moveJoint : ∀ w ∈ v_c_L_moveJoint, w ∈ lw_tbl := List.forall_mem_cons.mpr ⟨List.mem_of_getElem? (i := 576) (by decide +kernel), List.forall_mem_append.mpr ⟨List.forall_mem_cons.mpr ⟨List.mem_of_getElem? (i := 577) (by decide +kernel), fun _ h => absurd h List.not_mem_nil⟩, (by unfold wsV; exact List.forall_mem_append.mpr ⟨List.forall_mem_cons.mpr ⟨List.mem_of_getElem? (i := 601) (by decide +kernel), List.forall_mem_cons.mpr ⟨List.mem_of_getElem? (i := 602) (by decide +kernel), List.forall_mem_cons.mpr ⟨List.mem_of_getElem? (i := 603) (by decide +kernel), List.forall_mem_cons.mpr ⟨List.mem_of_getElem? (i := 49) (by decide +kernel), fun _ h => absurd h List.not_mem_nil⟩⟩⟩⟩, i_c_X7_moveJoint⟩)⟩⟩
set_option maxHeartbeats 4000000 in
set_option maxRecDepth 100000 in
theorem c_L_moveJoint (l : Launch) (dC : Nat → ClassId) (dI : Nat → Nat → Nat) (e0 : Nat) (hlT : l.stackTraces = false) (h0 : Nat) (p0 p1 p2 p3 p4 : Int32) (ao hd hse hki hma hst hsp hlp htl hj hpr hqd : Nat) (cJ : ClassId) (fo : Nat → Int64) (sz : Nat) : Met l yL_moveJoint v_c_L_moveJoint ({ frames := 8, cells := 1, slots := 6, locals := 125 }) (fz_P (dC, dI) e0 [(h0, .inr (12, [.ref hd, .ref hse, .ref hki, .ref hma, .ref hst, .ref hsp, .ref hlp, .ref htl, .int 0, .int 0, .int 0, .int 0, .int 0, .int 0, .int 0, .long ((0 : Int32).toInt64)])), (hd, .inr (6, [.ref hj, .ref hpr, .ref hqd, .int 0, .int 0, .int 1])), (ao, .inl (cJ, 1, .inr (.inl fo)))] [(cJ, .long)] sz (va_A [(h0, .inr (12, [.ref hd, .ref hse, .ref hki, .ref hma, .ref hst, .ref hsp, .ref hlp, .ref htl, .int 0, .int 0, .int 0, .int 0, .int 0, .int 0, .int 0, .long ((0 : Int32).toInt64)])), (hd, .inr (6, [.ref hj, .ref hpr, .ref hqd, .int 0, .int 0, .int 1])), (ao, .inl (cJ, 1, .inr (.inl fo)))] sz) [.ref h0, .int p0, .int p1, .int p2, .int p3, .int p4, .ref ao]) (va_Qi (fun (r : Int32) (u : Int64) => r = 1) (fun (u : Int64) (t : State) => ∃ fo2 : Nat → Int64, (fo2 0 = u) ∧ va_P (dC, dI) vwCl [(ao, .inl (cJ, 1, .inr (.inl fo2)))] t.heap ∧ va_K (dC, dI) vwCl [(cJ, .long)] t ∧ va_D (va_A [(h0, .inr (12, [.ref hd, .ref hse, .ref hki, .ref hma, .ref hst, .ref hsp, .ref hlp, .ref htl, .int 0, .int 0, .int 0, .int 0, .int 0, .int 0, .int 0, .long ((0 : Int32).toInt64)])), (hd, .inr (6, [.ref hj, .ref hpr, .ref hqd, .int 0, .int 0, .int 1])), (ao, .inl (cJ, 1, .inr (.inl fo)))] sz) [(ao, .inl (cJ, 1, .inr (.inl fo2)))]) (va_A [(h0, .inr (12, [.ref hd, .ref hse, .ref hki, .ref hma, .ref hst, .ref hsp, .ref hlp, .ref htl, .int 0, .int 0, .int 0, .int 0, .int 0, .int 0, .int 0, .long ((0 : Int32).toInt64)])), (hd, .inr (6, [.ref hj, .ref hpr, .ref hqd, .int 0, .int 0, .int 1])), (ao, .inl (cJ, 1, .inr (.inl fo)))] sz)) 1 6 (va_A [(h0, .inr (12, [.ref hd, .ref hse, .ref hki, .ref hma, .ref hst, .ref hsp, .ref hlp, .ref htl, .int 0, .int 0, .int 0, .int 0, .int 0, .int 0, .int 0, .long ((0 : Int32).toInt64)])), (hd, .inr (6, [.ref hj, .ref hpr, .ref hqd, .int 0, .int 0, .int 1])), (ao, .inl (cJ, 1, .inr (.inl fo)))] sz) := by
  refine va_MetW (cc := cL_moveJoint) (maxL := 8) (ret := (some .int)) (by decide) rfl ?_
  intro p e s m args below meth c s₁ B hml hv
  obtain ⟨rfl, hsz, hP, hK, hD0, hAm⟩ := hv
  have hx := B.exec
  have hb := B.bytes
  have hr := B.returns
  have hts := atoms_spec (ws := v_c_L_moveJoint) B.pre
  have hown : s.vm.findClass RL = some m.cls := findClass_of_methodNamed B.named
  have hlocks := B.notSynchronized
  have htab := vx_table (x := yL_moveJoint) B (hts _ List.mem_cons_self)
  subst hsz
  have hD := hD0.self (sz := s.heap.size)
  generalize hAe : va_A [(h0, .inr (12, [.ref hd, .ref hse, .ref hki, .ref hma, .ref hst, .ref hsp, .ref hlp, .ref htl, .int 0, .int 0, .int 0, .int 0, .int 0, .int 0, .int 0, .long ((0 : Int32).toInt64)])), (hd, .inr (6, [.ref hj, .ref hpr, .ref hqd, .int 0, .int 0, .int 1])), (ao, .inl (cJ, 1, .inr (.inl fo)))] s.heap.size = A at hD hAm ⊢
  have hA : ∀ q : Nat, s.heap.size ≤ q → A q := fun q h => by rw [← hAe]; exact Or.inr h
  have hS : va_S A s.heap s.heap [] := va_S.rf
  have hP : va_P (dC, dI) vwCl [(h0, .inr (12, [.ref hd, .ref hse, .ref hki, .ref hma, .ref hst, .ref hsp, .ref hlp, .ref htl, .int 0, .int 0, .int 0, .int 0, .int 0, .int 0, .int 0, .long ((0 : Int32).toInt64)])), (hd, .inr (6, [.ref hj, .ref hpr, .ref hqd, .int 0, .int 0, .int 1])), (ao, .inl (cJ, 1, .inr (.inl fo)))] s.heap := hP
  have hl := lv_entry ([.ref h0, .int p0, .int p1, .int p2, .int p3, .int p4, .ref ao]) (n := 8) (Nat.le_of_ble_eq_true rfl)
  rw [lg_entry_eq]
  generalize (lg_sl ([.ref h0, .int p0, .int p1, .int p2, .int p3, .int p4, .ref ao]) ++ List.replicate (8 - (lg_sl ([.ref h0, .int p0, .int p1, .int p2, .int p3, .int p4, .ref ao])).length) Slot.unset).toArray = ls at hl ⊢
  have hl : lv_has ls 8 [(0, .ref h0), (1, .int p0), (2, .int p1), (3, .int p2), (4, .int p3), (5, .int p4), (6, .ref ao)] := hl
  refine lv_aload hx hb dL_moveJoint_0 (lv_at hl 6 rfl) ?_
  refine lv_iconst (v := 0) hx hb dL_moveJoint_2 (by decide) ?_
  refine lv_aload_n hx hb dL_moveJoint_3 rfl (lv_at hl 0 rfl) ?_
  refine lv_iload_n hx hb dL_moveJoint_4 rfl (lv_at hl 1 rfl) ?_
  refine lv_iload_n hx hb dL_moveJoint_5 rfl (lv_at hl 2 rfl) ?_
  refine lv_iload_n hx hb dL_moveJoint_6 rfl (lv_at hl 3 rfl) ?_
  refine lv_iload hx hb dL_moveJoint_7 (lv_at hl 4 rfl) ?_
  refine lv_iload hx hb dL_moveJoint_9 (lv_at hl 5 rfl) ?_
  have hPc := hP.sub (ws' := [(h0, .inr (12, [.ref hd, .ref hse, .ref hki, .ref hma, .ref hst, .ref hsp, .ref hlp, .ref htl, .int 0, .int 0, .int 0, .int 0, .int 0, .int 0, .int 0, .long ((0 : Int32).toInt64)])), (hd, .inr (6, [.ref hj, .ref hpr, .ref hqd, .int 0, .int 0, .int 1]))]) [0, 1] rfl
  have hDc := hD.sub (ws' := [(h0, .inr (12, [.ref hd, .ref hse, .ref hki, .ref hma, .ref hst, .ref hsp, .ref hlp, .ref htl, .int 0, .int 0, .int 0, .int 0, .int 0, .int 0, .int 0, .long ((0 : Int32).toInt64)])), (hd, .inr (6, [.ref hj, .ref hpr, .ref hqd, .int 0, .int 0, .int 1]))]) [0, 1] (by decide) rfl
  have hKc := hK.sub (tys' := []) [] rfl
  have hFc : ∀ q : Nat, s.heap.size ≤ q → A q := fun q h => hA q (Nat.le_trans hS.1 h)
  refine vx_calli (vx_runV (As := [.int p0, .int p1, .int p2, .int p3, .int p4]) (rest := [.int 0, .ref ao]) ⟨hx, hb, hml, hown, hts⟩ (c_X7_moveJoint l dC dI e0 hlT h0 p0 p1 p2 p3 p4 hd hse hki hma hst hsp hlp htl hj hpr hqd s.heap.size) (cwV 5 hts (goodIn_sub (fun _ h9 => List.mem_cons_of_mem _ (List.mem_append_right _ (h9))) (by decide +kernel)) rfl rfl rfl (by decide +kernel) ⟨(Nat.le_of_ble_eq_true rfl), (Nat.le_of_ble_eq_true rfl)⟩) ⟨fz_blind, va_recv hKc hPc (ci := 12) (q0 := 0) rfl rfl, fz_pre hPc hKc hDc hAm hS hFc⟩ rfl rfl hl.1 rfl (lv_room (Nat.le_of_ble_eq_true rfl)) dL_moveJoint_11 ⟨(Nat.le_of_ble_eq_true rfl), (Nat.le_of_ble_eq_true rfl)⟩) hS (fun q _ h => hFc q h) hFc (fun q _ h => hFc q h) (fun E ce q9 u t H1 locs ht hvm hpx hBX hz1 hk1 hS hce hcv hcl => ?_) (fun r u t H1 locs ht hvm hw hB hz1 hk1 hS => ?_)
  · obtain rfl := hBX
    have hP := fz_keep hP hk1
    generalize H1 = H at hP hS hce ⊢
    have hP : va_P (dC, dI) vwCl [(h0, .inr (12, [.ref hd, .ref hse, .ref hki, .ref hma, .ref hst, .ref hsp, .ref hlp, .ref htl, .int 0, .int 0, .int 0, .int 0, .int 0, .int 0, .int 0, .long ((0 : Int32).toInt64)])), (hd, .inr (6, [.ref hj, .ref hpr, .ref hqd, .int 0, .int 0, .int 1])), (ao, .inl (cJ, 1, .inr (.inl fo)))] H := hP
    have hD : va_D A [(h0, .inr (12, [.ref hd, .ref hse, .ref hki, .ref hma, .ref hst, .ref hsp, .ref hlp, .ref htl, .int 0, .int 0, .int 0, .int 0, .int 0, .int 0, .int 0, .long ((0 : Int32).toInt64)])), (hd, .inr (6, [.ref hj, .ref hpr, .ref hqd, .int 0, .int 0, .int 1])), (ao, .inl (cJ, 1, .inr (.inl fo)))] := hD
    refine vx_widen (k := 1) (n := 6) (Nat.le_of_ble_eq_true rfl) (Nat.le_of_ble_eq_true rfl) ?_
    refine vx_catch (own := RL) (name := "java/lang/IndexOutOfBoundsException") hown [] ⟨0, 16, 19, 23⟩ [⟨0, 16, 23, 13⟩, ⟨0, 16, 27, 15⟩] htab (fun z hz => nomatch hz) (by decide) (by decide) (hts _ (List.mem_cons_of_mem _ (List.mem_append_left _ (List.mem_of_getElem? (i := 0) rfl)))) (hAm.1.2.1 _ fz_x_IndexOutOfBounds).use hce hcv hcl ?_
    refine W.eq (g2 := F0 m 19 ls [.ref q9]) rfl ?_
    refine lv_astore (lv' := [(7, .ref q9), (0, .ref h0), (1, .int p0), (2, .int p1), (3, .int p2), (4, .int p3), (5, .int p4), (6, .ref ao)]) hx hb dL_moveJoint_19 hl (by decide) rfl (fun ls hl => ?_)
    refine lv_iconst (v := 1) hx hb dL_moveJoint_21 (by decide) ?_
    have hP9 := hP.sub (ws' := [(ao, .inl (cJ, 1, .inr (.inl fo)))]) [2] rfl
    have hD9 := hD.sub (ws' := [(ao, .inl (cJ, 1, .inr (.inl fo)))]) [2] (by decide) rfl
    have hK9 := hK.sub (tys' := [(cJ, .long)]) [0] rfl
    refine W.widen (k := 1) (n := 6) (Nat.le_of_ble_eq_true rfl) (Nat.le_of_ble_eq_true rfl) ?_
    exact W.iret (v := 1) hx hb hr (fun t ht hW => ⟨⟨1, (fo 0), rfl, rfl, ⟨fo, (by first | rfl | simp [vp_updL]), by rw [ht]; exact hP9, va_K.moved hW.alike hK9, hD9⟩⟩, hS.F ht⟩) hS.2.2 dL_moveJoint_22
  · exact hw.elim
def v_c_L_setDensity : List Cond := .codeWith yL_setDensity cL_setDensity 4 (some .int) [(0, 9, 12, 13), (0, 9, 15, 15)] :: ([.classLink RL 13 "java/lang/IllegalArgumentException"] ++ (wsV RL 25 RX7 yX7_setDensity v_c_X7_setDensity))
set_option maxRecDepth 20000 in
theorem i_c_L_setDensity : ∀ w ∈ v_c_L_setDensity, w ∈ lw_tbl := List.forall_mem_cons.mpr ⟨List.mem_of_getElem? (i := 627) (by decide +kernel), List.forall_mem_append.mpr ⟨List.forall_mem_cons.mpr ⟨List.mem_of_getElem? (i := 427) (by decide +kernel), fun _ h => absurd h List.not_mem_nil⟩, (by unfold wsV; exact List.forall_mem_append.mpr ⟨List.forall_mem_cons.mpr ⟨List.mem_of_getElem? (i := 628) (by decide +kernel), List.forall_mem_cons.mpr ⟨List.mem_of_getElem? (i := 629) (by decide +kernel), List.forall_mem_cons.mpr ⟨List.mem_of_getElem? (i := 630) (by decide +kernel), List.forall_mem_cons.mpr ⟨List.mem_of_getElem? (i := 49) (by decide +kernel), fun _ h => absurd h List.not_mem_nil⟩⟩⟩⟩, i_c_X7_setDensity⟩)⟩⟩
set_option maxHeartbeats 4000000 in
set_option maxRecDepth 100000 in
theorem c_L_setDensity (l : Launch) (dC : Nat → ClassId) (dI : Nat → Nat → Nat) (e0 : Nat) (hlT : l.stackTraces = false) (h0 : Nat) (p0 : Int32) (ao hd hse hki hma hst hsp hlp htl hj hpr hqd : Nat) (cI : ClassId) (fsp : Nat → Int32) (cJ : ClassId) (fo : Nat → Int64) (sz : Nat) (hspf : ∀ j : Nat, j < 8 → fsp j = -1) : Met l yL_setDensity v_c_L_setDensity ({ frames := 8, cells := 1, slots := 6, locals := 122 }) (fz_P (dC, dI) e0 [(h0, .inr (12, [.ref hd, .ref hse, .ref hki, .ref hma, .ref hst, .ref hsp, .ref hlp, .ref htl, .int 0, .int 0, .int 0, .int 0, .int 0, .int 0, .int 0, .long ((0 : Int32).toInt64)])), (hd, .inr (6, [.ref hj, .ref hpr, .ref hqd, .int 0, .int 0, .int 1])), (hsp, .inl (cI, 8, .inl fsp)), (ao, .inl (cJ, 1, .inr (.inl fo)))] [(cI, .int), (cJ, .long)] sz (va_A [(h0, .inr (12, [.ref hd, .ref hse, .ref hki, .ref hma, .ref hst, .ref hsp, .ref hlp, .ref htl, .int 0, .int 0, .int 0, .int 0, .int 0, .int 0, .int 0, .long ((0 : Int32).toInt64)])), (hd, .inr (6, [.ref hj, .ref hpr, .ref hqd, .int 0, .int 0, .int 1])), (hsp, .inl (cI, 8, .inl fsp)), (ao, .inl (cJ, 1, .inr (.inl fo)))] sz) [.ref h0, .int p0, .ref ao]) (va_Qi (fun (r : Int32) (u : Int64) => (r = 0 ∧ u = (1 : Int32).toInt64 ∧ fz_in p0 1 3) ∨ (r = 1 ∧ ¬ fz_in p0 1 3)) (fun (u : Int64) (t : State) => ∃ fo2 : Nat → Int64, (fo2 0 = u) ∧ va_P (dC, dI) vwCl [(ao, .inl (cJ, 1, .inr (.inl fo2)))] t.heap ∧ va_K (dC, dI) vwCl [(cJ, .long)] t ∧ va_D (va_A [(h0, .inr (12, [.ref hd, .ref hse, .ref hki, .ref hma, .ref hst, .ref hsp, .ref hlp, .ref htl, .int 0, .int 0, .int 0, .int 0, .int 0, .int 0, .int 0, .long ((0 : Int32).toInt64)])), (hd, .inr (6, [.ref hj, .ref hpr, .ref hqd, .int 0, .int 0, .int 1])), (hsp, .inl (cI, 8, .inl fsp)), (ao, .inl (cJ, 1, .inr (.inl fo)))] sz) [(ao, .inl (cJ, 1, .inr (.inl fo2)))]) (va_A [(h0, .inr (12, [.ref hd, .ref hse, .ref hki, .ref hma, .ref hst, .ref hsp, .ref hlp, .ref htl, .int 0, .int 0, .int 0, .int 0, .int 0, .int 0, .int 0, .long ((0 : Int32).toInt64)])), (hd, .inr (6, [.ref hj, .ref hpr, .ref hqd, .int 0, .int 0, .int 1])), (hsp, .inl (cI, 8, .inl fsp)), (ao, .inl (cJ, 1, .inr (.inl fo)))] sz)) 1 6 (va_A [(h0, .inr (12, [.ref hd, .ref hse, .ref hki, .ref hma, .ref hst, .ref hsp, .ref hlp, .ref htl, .int 0, .int 0, .int 0, .int 0, .int 0, .int 0, .int 0, .long ((0 : Int32).toInt64)])), (hd, .inr (6, [.ref hj, .ref hpr, .ref hqd, .int 0, .int 0, .int 1])), (hsp, .inl (cI, 8, .inl fsp)), (ao, .inl (cJ, 1, .inr (.inl fo)))] sz) := by
  refine va_MetW (cc := cL_setDensity) (maxL := 4) (ret := (some .int)) (by decide) rfl ?_
  intro p e s m args below meth c s₁ B hml hv
  obtain ⟨rfl, hsz, hP, hK, hD0, hAm⟩ := hv
  have hx := B.exec
  have hb := B.bytes
  have hr := B.returns
  have hts := atoms_spec (ws := v_c_L_setDensity) B.pre
  have hown : s.vm.findClass RL = some m.cls := findClass_of_methodNamed B.named
  have hlocks := B.notSynchronized
  have htab := vx_table (x := yL_setDensity) B (hts _ List.mem_cons_self)
  subst hsz
  have hD := hD0.self (sz := s.heap.size)
  generalize hAe : va_A [(h0, .inr (12, [.ref hd, .ref hse, .ref hki, .ref hma, .ref hst, .ref hsp, .ref hlp, .ref htl, .int 0, .int 0, .int 0, .int 0, .int 0, .int 0, .int 0, .long ((0 : Int32).toInt64)])), (hd, .inr (6, [.ref hj, .ref hpr, .ref hqd, .int 0, .int 0, .int 1])), (hsp, .inl (cI, 8, .inl fsp)), (ao, .inl (cJ, 1, .inr (.inl fo)))] s.heap.size = A at hD hAm ⊢
  have hA : ∀ q : Nat, s.heap.size ≤ q → A q := fun q h => by rw [← hAe]; exact Or.inr h
  have hS : va_S A s.heap s.heap [] := va_S.rf
  have hP : va_P (dC, dI) vwCl [(h0, .inr (12, [.ref hd, .ref hse, .ref hki, .ref hma, .ref hst, .ref hsp, .ref hlp, .ref htl, .int 0, .int 0, .int 0, .int 0, .int 0, .int 0, .int 0, .long ((0 : Int32).toInt64)])), (hd, .inr (6, [.ref hj, .ref hpr, .ref hqd, .int 0, .int 0, .int 1])), (hsp, .inl (cI, 8, .inl fsp)), (ao, .inl (cJ, 1, .inr (.inl fo)))] s.heap := hP
  have hl := lv_entry ([.ref h0, .int p0, .ref ao]) (n := 4) (Nat.le_of_ble_eq_true rfl)
  rw [lg_entry_eq]
  generalize (lg_sl ([.ref h0, .int p0, .ref ao]) ++ List.replicate (4 - (lg_sl ([.ref h0, .int p0, .ref ao])).length) Slot.unset).toArray = ls at hl ⊢
  have hl : lv_has ls 4 [(0, .ref h0), (1, .int p0), (2, .ref ao)] := hl
  refine lv_aload_n hx hb dL_setDensity_0 rfl (lv_at hl 2 rfl) ?_
  refine lv_iconst (v := 0) hx hb dL_setDensity_1 (by decide) ?_
  refine lv_aload_n hx hb dL_setDensity_2 rfl (lv_at hl 0 rfl) ?_
  refine lv_iload_n hx hb dL_setDensity_3 rfl (lv_at hl 1 rfl) ?_
  have hPc := hP.sub (ws' := [(h0, .inr (12, [.ref hd, .ref hse, .ref hki, .ref hma, .ref hst, .ref hsp, .ref hlp, .ref htl, .int 0, .int 0, .int 0, .int 0, .int 0, .int 0, .int 0, .long ((0 : Int32).toInt64)])), (hd, .inr (6, [.ref hj, .ref hpr, .ref hqd, .int 0, .int 0, .int 1])), (hsp, .inl (cI, 8, .inl fsp))]) [0, 1, 2] rfl
  have hDc := hD.sub (ws' := [(h0, .inr (12, [.ref hd, .ref hse, .ref hki, .ref hma, .ref hst, .ref hsp, .ref hlp, .ref htl, .int 0, .int 0, .int 0, .int 0, .int 0, .int 0, .int 0, .long ((0 : Int32).toInt64)])), (hd, .inr (6, [.ref hj, .ref hpr, .ref hqd, .int 0, .int 0, .int 1])), (hsp, .inl (cI, 8, .inl fsp))]) [0, 1, 2] (by decide) rfl
  have hKc := hK.sub (tys' := [(cI, .int)]) [0] rfl
  have hFc := va_free (wc := [(h0, .inr (12, [.ref hd, .ref hse, .ref hki, .ref hma, .ref hst, .ref hsp, .ref hlp, .ref htl, .int 0, .int 0, .int 0, .int 0, .int 0, .int 0, .int 0, .long ((0 : Int32).toInt64)])), (hd, .inr (6, [.ref hj, .ref hpr, .ref hqd, .int 0, .int 0, .int 1])), (hsp, .inl (cI, 8, .inl fsp))]) hD hS hA [0, 1, 2] rfl
  refine vx_calli (vx_runV (As := [.int p0]) (rest := [.int 0, .ref ao]) ⟨hx, hb, hml, hown, hts⟩ (c_X7_setDensity l dC dI e0 hlT h0 p0 hd hse hki hma hst hsp hlp htl hj hpr hqd cI fsp s.heap.size hspf) (cwV 1 hts (goodIn_sub (fun _ h9 => List.mem_cons_of_mem _ (List.mem_append_right _ (h9))) (by decide +kernel)) rfl rfl rfl (by decide +kernel) ⟨(Nat.le_of_ble_eq_true rfl), (Nat.le_of_ble_eq_true rfl)⟩) ⟨fz_blind, va_recv hKc hPc (ci := 12) (q0 := 0) rfl rfl, fz_pre hPc hKc hDc hAm hS hFc⟩ rfl rfl hl.1 rfl (lv_room (Nat.le_of_ble_eq_true rfl)) dL_setDensity_4 ⟨(Nat.le_of_ble_eq_true rfl), (Nat.le_of_ble_eq_true rfl)⟩) hS (fun q _ h => hFc q h) hFc (fun q _ h => hFc q h) (fun E ce q9 u t H1 locs ht hvm hpx hBX hz1 hk1 hS hce hcv hcl => ?_) (fun r u t H1 locs ht hvm hw hB hz1 hk1 hS => ?_)
  · obtain ⟨rfl, hp_1⟩ := hBX
    obtain ⟨hP, hD⟩ := fz_keepC (WC := [(h0, .inr (12, [.ref hd, .ref hse, .ref hki, .ref hma, .ref hst, .ref hsp, .ref hlp, .ref htl, .int 0, .int 0, .int 0, .int 0, .int 0, .int 0, .int 0, .long ((0 : Int32).toInt64)])), (hd, .inr (6, [.ref hj, .ref hpr, .ref hqd, .int 0, .int 0, .int 1])), (hsp, .inl (cI, 8, .inl fsp))]) (WR := [(ao, .inl (cJ, 1, .inr (.inl fo)))]) hP hD [0, 1, 2] [3] rfl rfl (by decide) (by decide) hk1 hFc
    generalize H1 = H at hP hS hce ⊢
    have hP : va_P (dC, dI) vwCl [(ao, .inl (cJ, 1, .inr (.inl fo)))] H := hP
    have hD : va_D A [(ao, .inl (cJ, 1, .inr (.inl fo)))] := hD
    have hK : va_K (dC, dI) vwCl [(cI, .int), (cJ, .long)] s := hK
    refine vx_widen (k := 1) (n := 6) (Nat.le_of_ble_eq_true rfl) (Nat.le_of_ble_eq_true rfl) ?_
    refine vx_catch (own := RL) (name := "java/lang/IllegalArgumentException") hown [] ⟨0, 9, 12, 13⟩ [⟨0, 9, 15, 15⟩] htab (fun z hz => nomatch hz) (by decide) (by decide) (hts _ (List.mem_cons_of_mem _ (List.mem_append_left _ (List.mem_of_getElem? (i := 0) rfl)))) (hAm.1.2.1 _ fz_x_IllegalArgument).use hce hcv hcl ?_
    refine W.eq (g2 := F0 m 12 ls [.ref q9]) rfl ?_
    refine lv_astore_n (lv' := [(3, .ref q9), (0, .ref h0), (1, .int p0), (2, .ref ao)]) hx hb dL_setDensity_12 rfl hl (by decide) rfl (fun ls hl => ?_)
    refine lv_iconst (v := 1) hx hb dL_setDensity_13 (by decide) ?_
    have hP9 := hP.sub (ws' := [(ao, .inl (cJ, 1, .inr (.inl fo)))]) [0] rfl
    have hD9 := hD.sub (ws' := [(ao, .inl (cJ, 1, .inr (.inl fo)))]) [0] (by decide) rfl
    have hK9 := hK.sub (tys' := [(cJ, .long)]) [1] rfl
    refine W.widen (k := 1) (n := 6) (Nat.le_of_ble_eq_true rfl) (Nat.le_of_ble_eq_true rfl) ?_
    exact W.iret (v := 1) hx hb hr (fun t ht hW => ⟨⟨1, (fo 0), rfl, Or.inr (⟨rfl, hp_1⟩), ⟨fo, (by first | rfl | simp [vp_updL]), by rw [ht]; exact hP9, va_K.moved hW.alike hK9, hD9⟩⟩, hS.F ht⟩) hS.2.2 dL_setDensity_14
  · obtain ⟨rfl, hp_2⟩ := hw
    obtain ⟨hP, hD⟩ := fz_keepC (WC := [(h0, .inr (12, [.ref hd, .ref hse, .ref hki, .ref hma, .ref hst, .ref hsp, .ref hlp, .ref htl, .int 0, .int 0, .int 0, .int 0, .int 0, .int 0, .int 0, .long ((0 : Int32).toInt64)])), (hd, .inr (6, [.ref hj, .ref hpr, .ref hqd, .int 0, .int 0, .int 1])), (hsp, .inl (cI, 8, .inl fsp))]) (WR := [(ao, .inl (cJ, 1, .inr (.inl fo)))]) hP hD [0, 1, 2] [3] rfl rfl (by decide) (by decide) hk1 hFc
    generalize H1 = H at hP hS ⊢
    have hP : va_P (dC, dI) vwCl [(ao, .inl (cJ, 1, .inr (.inl fo)))] H := hP
    have hD : va_D A [(ao, .inl (cJ, 1, .inr (.inl fo)))] := hD
    have hK : va_K (dC, dI) vwCl [(cI, .int), (cJ, .long)] s := hK
    refine W.widen (k := 1) (n := 6) (Nat.le_of_ble_eq_true rfl) (Nat.le_of_ble_eq_true rfl) ?_
    refine lv_i2l (v := (1 : Int32).toInt64) hx hb dL_setDensity_7 rfl ?_
    refine va_last hx hb hK hP hD hS 0 1 rfl rfl (fz_il (by decide)) dL_setDensity_8 (fun H locs hP hD hS => ?_)
    have hP : va_P (dC, dI) vwCl [(ao, .inl (cJ, 1, .inr (.inl (vp_updL fo (0 : Int32).toNatClampNeg ((1 : Int32).toInt64)))))] H := hP
    have hD : va_D A [(ao, .inl (cJ, 1, .inr (.inl (vp_updL fo (0 : Int32).toNatClampNeg ((1 : Int32).toInt64)))))] := hD
    refine lv_goto (tgt := 18) hx hb dL_setDensity_9 (by decide) ?_
    refine lv_iconst (v := 0) hx hb dL_setDensity_18 (by decide) ?_
    have hP9 := hP.sub (ws' := [(ao, .inl (cJ, 1, .inr (.inl (vp_updL fo (0 : Int32).toNatClampNeg ((1 : Int32).toInt64)))))]) [0] rfl
    have hD9 := hD.sub (ws' := [(ao, .inl (cJ, 1, .inr (.inl (vp_updL fo (0 : Int32).toNatClampNeg ((1 : Int32).toInt64)))))]) [0] (by decide) rfl
    have hK9 := hK.sub (tys' := [(cJ, .long)]) [1] rfl
    refine W.widen (k := 1) (n := 6) (Nat.le_of_ble_eq_true rfl) (Nat.le_of_ble_eq_true rfl) ?_
    exact W.iret (v := 0) hx hb hr (fun t ht hW => ⟨⟨0, ((1 : Int32).toInt64), rfl, Or.inl (⟨rfl, rfl, hp_2⟩), ⟨(vp_updL fo (0 : Int32).toNatClampNeg ((1 : Int32).toInt64)), (by first | rfl | simp [vp_updL]), by rw [ht]; exact hP9, va_K.moved hW.alike hK9, hD9⟩⟩, hS.F ht⟩) hS.2.2 dL_setDensity_19
def v_c_L_area : List Cond := .codeWith yL_area cL_area 4 (some .int) [(0, 9, 12, 23)] :: ([.classLink RL 23 "java/lang/IndexOutOfBoundsException"] ++ (wsV RL 29 RX7 yX7_area v_c_X7_area))
set_option maxRecDepth 20000 in
theorem i_c_L_area : ∀ w ∈ v_c_L_area, w ∈ lw_tbl := List.forall_mem_cons.mpr ⟨List.mem_of_getElem? (i := 635) (by decide +kernel), List.forall_mem_append.mpr ⟨List.forall_mem_cons.mpr ⟨List.mem_of_getElem? (i := 577) (by decide +kernel), fun _ h => absurd h List.not_mem_nil⟩, (by unfold wsV; exact List.forall_mem_append.mpr ⟨List.forall_mem_cons.mpr ⟨List.mem_of_getElem? (i := 636) (by decide +kernel), List.forall_mem_cons.mpr ⟨List.mem_of_getElem? (i := 637) (by decide +kernel), List.forall_mem_cons.mpr ⟨List.mem_of_getElem? (i := 638) (by decide +kernel), List.forall_mem_cons.mpr ⟨List.mem_of_getElem? (i := 49) (by decide +kernel), fun _ h => absurd h List.not_mem_nil⟩⟩⟩⟩, i_c_X7_area⟩)⟩⟩
set_option maxHeartbeats 4000000 in
set_option maxRecDepth 100000 in
theorem c_L_area (l : Launch) (dC : Nat → ClassId) (dI : Nat → Nat → Nat) (e0 : Nat) (hlT : l.stackTraces = false) (h0 : Nat) (p0 : Int32) (ao hd hse hki hma hst hsp hlp htl hj hpr hqd : Nat) (cJ : ClassId) (fo : Nat → Int64) (sz : Nat) : Met l yL_area v_c_L_area ({ frames := 8, cells := 1, slots := 6, locals := 121 }) (fz_P (dC, dI) e0 [(h0, .inr (12, [.ref hd, .ref hse, .ref hki, .ref hma, .ref hst, .ref hsp, .ref hlp, .ref htl, .int 0, .int 0, .int 0, .int 0, .int 0, .int 0, .int 0, .long ((0 : Int32).toInt64)])), (hd, .inr (6, [.ref hj, .ref hpr, .ref hqd, .int 0, .int 0, .int 1])), (ao, .inl (cJ, 1, .inr (.inl fo)))] [(cJ, .long)] sz (va_A [(h0, .inr (12, [.ref hd, .ref hse, .ref hki, .ref hma, .ref hst, .ref hsp, .ref hlp, .ref htl, .int 0, .int 0, .int 0, .int 0, .int 0, .int 0, .int 0, .long ((0 : Int32).toInt64)])), (hd, .inr (6, [.ref hj, .ref hpr, .ref hqd, .int 0, .int 0, .int 1])), (ao, .inl (cJ, 1, .inr (.inl fo)))] sz) [.ref h0, .int p0, .ref ao]) (va_Qi (fun (r : Int32) (u : Int64) => r = 1) (fun (u : Int64) (t : State) => ∃ fo2 : Nat → Int64, (fo2 0 = u) ∧ va_P (dC, dI) vwCl [(ao, .inl (cJ, 1, .inr (.inl fo2)))] t.heap ∧ va_K (dC, dI) vwCl [(cJ, .long)] t ∧ va_D (va_A [(h0, .inr (12, [.ref hd, .ref hse, .ref hki, .ref hma, .ref hst, .ref hsp, .ref hlp, .ref htl, .int 0, .int 0, .int 0, .int 0, .int 0, .int 0, .int 0, .long ((0 : Int32).toInt64)])), (hd, .inr (6, [.ref hj, .ref hpr, .ref hqd, .int 0, .int 0, .int 1])), (ao, .inl (cJ, 1, .inr (.inl fo)))] sz) [(ao, .inl (cJ, 1, .inr (.inl fo2)))]) (va_A [(h0, .inr (12, [.ref hd, .ref hse, .ref hki, .ref hma, .ref hst, .ref hsp, .ref hlp, .ref htl, .int 0, .int 0, .int 0, .int 0, .int 0, .int 0, .int 0, .long ((0 : Int32).toInt64)])), (hd, .inr (6, [.ref hj, .ref hpr, .ref hqd, .int 0, .int 0, .int 1])), (ao, .inl (cJ, 1, .inr (.inl fo)))] sz)) 1 6 (va_A [(h0, .inr (12, [.ref hd, .ref hse, .ref hki, .ref hma, .ref hst, .ref hsp, .ref hlp, .ref htl, .int 0, .int 0, .int 0, .int 0, .int 0, .int 0, .int 0, .long ((0 : Int32).toInt64)])), (hd, .inr (6, [.ref hj, .ref hpr, .ref hqd, .int 0, .int 0, .int 1])), (ao, .inl (cJ, 1, .inr (.inl fo)))] sz) := by
  refine va_MetW (cc := cL_area) (maxL := 4) (ret := (some .int)) (by decide) rfl ?_
  intro p e s m args below meth c s₁ B hml hv
  obtain ⟨rfl, hsz, hP, hK, hD0, hAm⟩ := hv
  have hx := B.exec
  have hb := B.bytes
  have hr := B.returns
  have hts := atoms_spec (ws := v_c_L_area) B.pre
  have hown : s.vm.findClass RL = some m.cls := findClass_of_methodNamed B.named
  have hlocks := B.notSynchronized
  have htab := vx_table (x := yL_area) B (hts _ List.mem_cons_self)
  subst hsz
  have hD := hD0.self (sz := s.heap.size)
  generalize hAe : va_A [(h0, .inr (12, [.ref hd, .ref hse, .ref hki, .ref hma, .ref hst, .ref hsp, .ref hlp, .ref htl, .int 0, .int 0, .int 0, .int 0, .int 0, .int 0, .int 0, .long ((0 : Int32).toInt64)])), (hd, .inr (6, [.ref hj, .ref hpr, .ref hqd, .int 0, .int 0, .int 1])), (ao, .inl (cJ, 1, .inr (.inl fo)))] s.heap.size = A at hD hAm ⊢
  have hA : ∀ q : Nat, s.heap.size ≤ q → A q := fun q h => by rw [← hAe]; exact Or.inr h
  have hS : va_S A s.heap s.heap [] := va_S.rf
  have hP : va_P (dC, dI) vwCl [(h0, .inr (12, [.ref hd, .ref hse, .ref hki, .ref hma, .ref hst, .ref hsp, .ref hlp, .ref htl, .int 0, .int 0, .int 0, .int 0, .int 0, .int 0, .int 0, .long ((0 : Int32).toInt64)])), (hd, .inr (6, [.ref hj, .ref hpr, .ref hqd, .int 0, .int 0, .int 1])), (ao, .inl (cJ, 1, .inr (.inl fo)))] s.heap := hP
  have hl := lv_entry ([.ref h0, .int p0, .ref ao]) (n := 4) (Nat.le_of_ble_eq_true rfl)
  rw [lg_entry_eq]
  generalize (lg_sl ([.ref h0, .int p0, .ref ao]) ++ List.replicate (4 - (lg_sl ([.ref h0, .int p0, .ref ao])).length) Slot.unset).toArray = ls at hl ⊢
  have hl : lv_has ls 4 [(0, .ref h0), (1, .int p0), (2, .ref ao)] := hl
  refine lv_aload_n hx hb dL_area_0 rfl (lv_at hl 2 rfl) ?_
  refine lv_iconst (v := 0) hx hb dL_area_1 (by decide) ?_
  refine lv_aload_n hx hb dL_area_2 rfl (lv_at hl 0 rfl) ?_
  refine lv_iload_n hx hb dL_area_3 rfl (lv_at hl 1 rfl) ?_
  have hPc := hP.sub (ws' := [(h0, .inr (12, [.ref hd, .ref hse, .ref hki, .ref hma, .ref hst, .ref hsp, .ref hlp, .ref htl, .int 0, .int 0, .int 0, .int 0, .int 0, .int 0, .int 0, .long ((0 : Int32).toInt64)])), (hd, .inr (6, [.ref hj, .ref hpr, .ref hqd, .int 0, .int 0, .int 1]))]) [0, 1] rfl
  have hDc := hD.sub (ws' := [(h0, .inr (12, [.ref hd, .ref hse, .ref hki, .ref hma, .ref hst, .ref hsp, .ref hlp, .ref htl, .int 0, .int 0, .int 0, .int 0, .int 0, .int 0, .int 0, .long ((0 : Int32).toInt64)])), (hd, .inr (6, [.ref hj, .ref hpr, .ref hqd, .int 0, .int 0, .int 1]))]) [0, 1] (by decide) rfl
  have hKc := hK.sub (tys' := []) [] rfl
  have hFc : ∀ q : Nat, s.heap.size ≤ q → A q := fun q h => hA q (Nat.le_trans hS.1 h)
  refine vx_calli (vx_runV (As := [.int p0]) (rest := [.int 0, .ref ao]) ⟨hx, hb, hml, hown, hts⟩ (c_X7_area l dC dI e0 hlT h0 p0 hd hse hki hma hst hsp hlp htl hj hpr hqd s.heap.size) (cwV 1 hts (goodIn_sub (fun _ h9 => List.mem_cons_of_mem _ (List.mem_append_right _ (h9))) (by decide +kernel)) rfl rfl rfl (by decide +kernel) ⟨(Nat.le_of_ble_eq_true rfl), (Nat.le_of_ble_eq_true rfl)⟩) ⟨fz_blind, va_recv hKc hPc (ci := 12) (q0 := 0) rfl rfl, fz_pre hPc hKc hDc hAm hS hFc⟩ rfl rfl hl.1 rfl (lv_room (Nat.le_of_ble_eq_true rfl)) dL_area_4 ⟨(Nat.le_of_ble_eq_true rfl), (Nat.le_of_ble_eq_true rfl)⟩) hS (fun q _ h => hFc q h) hFc (fun q _ h => hFc q h) (fun E ce q9 u t H1 locs ht hvm hpx hBX hz1 hk1 hS hce hcv hcl => ?_) (fun r u t H1 locs ht hvm hw hB hz1 hk1 hS => ?_)
  · obtain rfl := hBX
    have hP := fz_keep hP hk1
    generalize H1 = H at hP hS hce ⊢
    have hP : va_P (dC, dI) vwCl [(h0, .inr (12, [.ref hd, .ref hse, .ref hki, .ref hma, .ref hst, .ref hsp, .ref hlp, .ref htl, .int 0, .int 0, .int 0, .int 0, .int 0, .int 0, .int 0, .long ((0 : Int32).toInt64)])), (hd, .inr (6, [.ref hj, .ref hpr, .ref hqd, .int 0, .int 0, .int 1])), (ao, .inl (cJ, 1, .inr (.inl fo)))] H := hP
    have hD : va_D A [(h0, .inr (12, [.ref hd, .ref hse, .ref hki, .ref hma, .ref hst, .ref hsp, .ref hlp, .ref htl, .int 0, .int 0, .int 0, .int 0, .int 0, .int 0, .int 0, .long ((0 : Int32).toInt64)])), (hd, .inr (6, [.ref hj, .ref hpr, .ref hqd, .int 0, .int 0, .int 1])), (ao, .inl (cJ, 1, .inr (.inl fo)))] := hD
    refine vx_widen (k := 1) (n := 6) (Nat.le_of_ble_eq_true rfl) (Nat.le_of_ble_eq_true rfl) ?_
    refine vx_catch (own := RL) (name := "java/lang/IndexOutOfBoundsException") hown [] ⟨0, 9, 12, 23⟩ [] htab (fun z hz => nomatch hz) (by decide) (by decide) (hts _ (List.mem_cons_of_mem _ (List.mem_append_left _ (List.mem_of_getElem? (i := 0) rfl)))) (hAm.1.2.1 _ fz_x_IndexOutOfBounds).use hce hcv hcl ?_
    refine W.eq (g2 := F0 m 12 ls [.ref q9]) rfl ?_
    refine lv_astore_n (lv' := [(3, .ref q9), (0, .ref h0), (1, .int p0), (2, .ref ao)]) hx hb dL_area_12 rfl hl (by decide) rfl (fun ls hl => ?_)
    refine lv_iconst (v := 1) hx hb dL_area_13 (by decide) ?_
    have hP9 := hP.sub (ws' := [(ao, .inl (cJ, 1, .inr (.inl fo)))]) [2] rfl
    have hD9 := hD.sub (ws' := [(ao, .inl (cJ, 1, .inr (.inl fo)))]) [2] (by decide) rfl
    have hK9 := hK.sub (tys' := [(cJ, .long)]) [0] rfl
    refine W.widen (k := 1) (n := 6) (Nat.le_of_ble_eq_true rfl) (Nat.le_of_ble_eq_true rfl) ?_
    exact W.iret (v := 1) hx hb hr (fun t ht hW => ⟨⟨1, (fo 0), rfl, rfl, ⟨fo, (by first | rfl | simp [vp_updL]), by rw [ht]; exact hP9, va_K.moved hW.alike hK9, hD9⟩⟩, hS.F ht⟩) hS.2.2 dL_area_14
  · exact hw.elim
def v_c_L_weight : List Cond := .codeWith yL_weight cL_weight 4 (some .int) [(0, 9, 12, 23)] :: ([.classLink RL 23 "java/lang/IndexOutOfBoundsException"] ++ (wsV RL 32 RX7 yX7_weight v_c_X7_weight))
set_option maxRecDepth 20000 in
theorem i_c_L_weight : ∀ w ∈ v_c_L_weight, w ∈ lw_tbl := List.forall_mem_cons.mpr ⟨List.mem_of_getElem? (i := 648) (by decide +kernel), List.forall_mem_append.mpr ⟨List.forall_mem_cons.mpr ⟨List.mem_of_getElem? (i := 577) (by decide +kernel), fun _ h => absurd h List.not_mem_nil⟩, (by unfold wsV; exact List.forall_mem_append.mpr ⟨List.forall_mem_cons.mpr ⟨List.mem_of_getElem? (i := 649) (by decide +kernel), List.forall_mem_cons.mpr ⟨List.mem_of_getElem? (i := 650) (by decide +kernel), List.forall_mem_cons.mpr ⟨List.mem_of_getElem? (i := 651) (by decide +kernel), List.forall_mem_cons.mpr ⟨List.mem_of_getElem? (i := 49) (by decide +kernel), fun _ h => absurd h List.not_mem_nil⟩⟩⟩⟩, i_c_X7_weight⟩)⟩⟩
set_option maxHeartbeats 4000000 in
set_option maxRecDepth 100000 in
theorem c_L_weight (l : Launch) (dC : Nat → ClassId) (dI : Nat → Nat → Nat) (e0 : Nat) (hlT : l.stackTraces = false) (h0 : Nat) (p0 : Int32) (ao hd hse hki hma hst hsp hlp htl hj hpr hqd : Nat) (cJ : ClassId) (fo : Nat → Int64) (sz : Nat) : Met l yL_weight v_c_L_weight ({ frames := 8, cells := 1, slots := 6, locals := 121 }) (fz_P (dC, dI) e0 [(h0, .inr (12, [.ref hd, .ref hse, .ref hki, .ref hma, .ref hst, .ref hsp, .ref hlp, .ref htl, .int 0, .int 0, .int 0, .int 0, .int 0, .int 0, .int 0, .long ((0 : Int32).toInt64)])), (hd, .inr (6, [.ref hj, .ref hpr, .ref hqd, .int 0, .int 0, .int 1])), (ao, .inl (cJ, 1, .inr (.inl fo)))] [(cJ, .long)] sz (va_A [(h0, .inr (12, [.ref hd, .ref hse, .ref hki, .ref hma, .ref hst, .ref hsp, .ref hlp, .ref htl, .int 0, .int 0, .int 0, .int 0, .int 0, .int 0, .int 0, .long ((0 : Int32).toInt64)])), (hd, .inr (6, [.ref hj, .ref hpr, .ref hqd, .int 0, .int 0, .int 1])), (ao, .inl (cJ, 1, .inr (.inl fo)))] sz) [.ref h0, .int p0, .ref ao]) (va_Qi (fun (r : Int32) (u : Int64) => r = 1) (fun (u : Int64) (t : State) => ∃ fo2 : Nat → Int64, (fo2 0 = u) ∧ va_P (dC, dI) vwCl [(ao, .inl (cJ, 1, .inr (.inl fo2)))] t.heap ∧ va_K (dC, dI) vwCl [(cJ, .long)] t ∧ va_D (va_A [(h0, .inr (12, [.ref hd, .ref hse, .ref hki, .ref hma, .ref hst, .ref hsp, .ref hlp, .ref htl, .int 0, .int 0, .int 0, .int 0, .int 0, .int 0, .int 0, .long ((0 : Int32).toInt64)])), (hd, .inr (6, [.ref hj, .ref hpr, .ref hqd, .int 0, .int 0, .int 1])), (ao, .inl (cJ, 1, .inr (.inl fo)))] sz) [(ao, .inl (cJ, 1, .inr (.inl fo2)))]) (va_A [(h0, .inr (12, [.ref hd, .ref hse, .ref hki, .ref hma, .ref hst, .ref hsp, .ref hlp, .ref htl, .int 0, .int 0, .int 0, .int 0, .int 0, .int 0, .int 0, .long ((0 : Int32).toInt64)])), (hd, .inr (6, [.ref hj, .ref hpr, .ref hqd, .int 0, .int 0, .int 1])), (ao, .inl (cJ, 1, .inr (.inl fo)))] sz)) 1 6 (va_A [(h0, .inr (12, [.ref hd, .ref hse, .ref hki, .ref hma, .ref hst, .ref hsp, .ref hlp, .ref htl, .int 0, .int 0, .int 0, .int 0, .int 0, .int 0, .int 0, .long ((0 : Int32).toInt64)])), (hd, .inr (6, [.ref hj, .ref hpr, .ref hqd, .int 0, .int 0, .int 1])), (ao, .inl (cJ, 1, .inr (.inl fo)))] sz) := by
  refine va_MetW (cc := cL_weight) (maxL := 4) (ret := (some .int)) (by decide) rfl ?_
  intro p e s m args below meth c s₁ B hml hv
  obtain ⟨rfl, hsz, hP, hK, hD0, hAm⟩ := hv
  have hx := B.exec
  have hb := B.bytes
  have hr := B.returns
  have hts := atoms_spec (ws := v_c_L_weight) B.pre
  have hown : s.vm.findClass RL = some m.cls := findClass_of_methodNamed B.named
  have hlocks := B.notSynchronized
  have htab := vx_table (x := yL_weight) B (hts _ List.mem_cons_self)
  subst hsz
  have hD := hD0.self (sz := s.heap.size)
  generalize hAe : va_A [(h0, .inr (12, [.ref hd, .ref hse, .ref hki, .ref hma, .ref hst, .ref hsp, .ref hlp, .ref htl, .int 0, .int 0, .int 0, .int 0, .int 0, .int 0, .int 0, .long ((0 : Int32).toInt64)])), (hd, .inr (6, [.ref hj, .ref hpr, .ref hqd, .int 0, .int 0, .int 1])), (ao, .inl (cJ, 1, .inr (.inl fo)))] s.heap.size = A at hD hAm ⊢
  have hA : ∀ q : Nat, s.heap.size ≤ q → A q := fun q h => by rw [← hAe]; exact Or.inr h
  have hS : va_S A s.heap s.heap [] := va_S.rf
  have hP : va_P (dC, dI) vwCl [(h0, .inr (12, [.ref hd, .ref hse, .ref hki, .ref hma, .ref hst, .ref hsp, .ref hlp, .ref htl, .int 0, .int 0, .int 0, .int 0, .int 0, .int 0, .int 0, .long ((0 : Int32).toInt64)])), (hd, .inr (6, [.ref hj, .ref hpr, .ref hqd, .int 0, .int 0, .int 1])), (ao, .inl (cJ, 1, .inr (.inl fo)))] s.heap := hP
  have hl := lv_entry ([.ref h0, .int p0, .ref ao]) (n := 4) (Nat.le_of_ble_eq_true rfl)
  rw [lg_entry_eq]
  generalize (lg_sl ([.ref h0, .int p0, .ref ao]) ++ List.replicate (4 - (lg_sl ([.ref h0, .int p0, .ref ao])).length) Slot.unset).toArray = ls at hl ⊢
  have hl : lv_has ls 4 [(0, .ref h0), (1, .int p0), (2, .ref ao)] := hl
  refine lv_aload_n hx hb dL_weight_0 rfl (lv_at hl 2 rfl) ?_
  refine lv_iconst (v := 0) hx hb dL_weight_1 (by decide) ?_
  refine lv_aload_n hx hb dL_weight_2 rfl (lv_at hl 0 rfl) ?_
  refine lv_iload_n hx hb dL_weight_3 rfl (lv_at hl 1 rfl) ?_
  have hPc := hP.sub (ws' := [(h0, .inr (12, [.ref hd, .ref hse, .ref hki, .ref hma, .ref hst, .ref hsp, .ref hlp, .ref htl, .int 0, .int 0, .int 0, .int 0, .int 0, .int 0, .int 0, .long ((0 : Int32).toInt64)])), (hd, .inr (6, [.ref hj, .ref hpr, .ref hqd, .int 0, .int 0, .int 1]))]) [0, 1] rfl
  have hDc := hD.sub (ws' := [(h0, .inr (12, [.ref hd, .ref hse, .ref hki, .ref hma, .ref hst, .ref hsp, .ref hlp, .ref htl, .int 0, .int 0, .int 0, .int 0, .int 0, .int 0, .int 0, .long ((0 : Int32).toInt64)])), (hd, .inr (6, [.ref hj, .ref hpr, .ref hqd, .int 0, .int 0, .int 1]))]) [0, 1] (by decide) rfl
  have hKc := hK.sub (tys' := []) [] rfl
  have hFc : ∀ q : Nat, s.heap.size ≤ q → A q := fun q h => hA q (Nat.le_trans hS.1 h)
  refine vx_calli (vx_runV (As := [.int p0]) (rest := [.int 0, .ref ao]) ⟨hx, hb, hml, hown, hts⟩ (c_X7_weight l dC dI e0 hlT h0 p0 hd hse hki hma hst hsp hlp htl hj hpr hqd s.heap.size) (cwV 1 hts (goodIn_sub (fun _ h9 => List.mem_cons_of_mem _ (List.mem_append_right _ (h9))) (by decide +kernel)) rfl rfl rfl (by decide +kernel) ⟨(Nat.le_of_ble_eq_true rfl), (Nat.le_of_ble_eq_true rfl)⟩) ⟨fz_blind, va_recv hKc hPc (ci := 12) (q0 := 0) rfl rfl, fz_pre hPc hKc hDc hAm hS hFc⟩ rfl rfl hl.1 rfl (lv_room (Nat.le_of_ble_eq_true rfl)) dL_weight_4 ⟨(Nat.le_of_ble_eq_true rfl), (Nat.le_of_ble_eq_true rfl)⟩) hS (fun q _ h => hFc q h) hFc (fun q _ h => hFc q h) (fun E ce q9 u t H1 locs ht hvm hpx hBX hz1 hk1 hS hce hcv hcl => ?_) (fun r u t H1 locs ht hvm hw hB hz1 hk1 hS => ?_)
  · obtain rfl := hBX
    have hP := fz_keep hP hk1
    generalize H1 = H at hP hS hce ⊢
    have hP : va_P (dC, dI) vwCl [(h0, .inr (12, [.ref hd, .ref hse, .ref hki, .ref hma, .ref hst, .ref hsp, .ref hlp, .ref htl, .int 0, .int 0, .int 0, .int 0, .int 0, .int 0, .int 0, .long ((0 : Int32).toInt64)])), (hd, .inr (6, [.ref hj, .ref hpr, .ref hqd, .int 0, .int 0, .int 1])), (ao, .inl (cJ, 1, .inr (.inl fo)))] H := hP
    have hD : va_D A [(h0, .inr (12, [.ref hd, .ref hse, .ref hki, .ref hma, .ref hst, .ref hsp, .ref hlp, .ref htl, .int 0, .int 0, .int 0, .int 0, .int 0, .int 0, .int 0, .long ((0 : Int32).toInt64)])), (hd, .inr (6, [.ref hj, .ref hpr, .ref hqd, .int 0, .int 0, .int 1])), (ao, .inl (cJ, 1, .inr (.inl fo)))] := hD
    refine vx_widen (k := 1) (n := 6) (Nat.le_of_ble_eq_true rfl) (Nat.le_of_ble_eq_true rfl) ?_
    refine vx_catch (own := RL) (name := "java/lang/IndexOutOfBoundsException") hown [] ⟨0, 9, 12, 23⟩ [] htab (fun z hz => nomatch hz) (by decide) (by decide) (hts _ (List.mem_cons_of_mem _ (List.mem_append_left _ (List.mem_of_getElem? (i := 0) rfl)))) (hAm.1.2.1 _ fz_x_IndexOutOfBounds).use hce hcv hcl ?_
    refine W.eq (g2 := F0 m 12 ls [.ref q9]) rfl ?_
    refine lv_astore_n (lv' := [(3, .ref q9), (0, .ref h0), (1, .int p0), (2, .ref ao)]) hx hb dL_weight_12 rfl hl (by decide) rfl (fun ls hl => ?_)
    refine lv_iconst (v := 1) hx hb dL_weight_13 (by decide) ?_
    have hP9 := hP.sub (ws' := [(ao, .inl (cJ, 1, .inr (.inl fo)))]) [2] rfl
    have hD9 := hD.sub (ws' := [(ao, .inl (cJ, 1, .inr (.inl fo)))]) [2] (by decide) rfl
    have hK9 := hK.sub (tys' := [(cJ, .long)]) [0] rfl
    refine W.widen (k := 1) (n := 6) (Nat.le_of_ble_eq_true rfl) (Nat.le_of_ble_eq_true rfl) ?_
    exact W.iret (v := 1) hx hb hr (fun t ht hW => ⟨⟨1, (fo 0), rfl, rfl, ⟨fo, (by first | rfl | simp [vp_updL]), by rw [ht]; exact hP9, va_K.moved hW.alike hK9, hD9⟩⟩, hS.F ht⟩) hS.2.2 dL_weight_14
  · exact hw.elim
def v_c_L_bestBlock : List Cond := .codeWith yL_bestBlock cL_bestBlock 4 (some .int) [(0, 9, 12, 23), (0, 9, 15, 39)] :: ([.classLink RL 23 "java/lang/IndexOutOfBoundsException"] ++ (wsV RL 56 RX7 yX7_bestBlock v_c_X7_bestBlock))
set_option maxRecDepth 20000 in
theorem i_c_L_bestBlock : ∀ w ∈ v_c_L_bestBlock, w ∈ lw_tbl := List.forall_mem_cons.mpr ⟨List.mem_of_getElem? (i := 761) (by decide +kernel), List.forall_mem_append.mpr ⟨List.forall_mem_cons.mpr ⟨List.mem_of_getElem? (i := 577) (by decide +kernel), fun _ h => absurd h List.not_mem_nil⟩, (by unfold wsV; exact List.forall_mem_append.mpr ⟨List.forall_mem_cons.mpr ⟨List.mem_of_getElem? (i := 762) (by decide +kernel), List.forall_mem_cons.mpr ⟨List.mem_of_getElem? (i := 763) (by decide +kernel), List.forall_mem_cons.mpr ⟨List.mem_of_getElem? (i := 764) (by decide +kernel), List.forall_mem_cons.mpr ⟨List.mem_of_getElem? (i := 49) (by decide +kernel), fun _ h => absurd h List.not_mem_nil⟩⟩⟩⟩, i_c_X7_bestBlock⟩)⟩⟩
set_option maxHeartbeats 4000000 in
set_option maxRecDepth 100000 in
theorem c_L_bestBlock (l : Launch) (dC : Nat → ClassId) (dI : Nat → Nat → Nat) (e0 : Nat) (hlT : l.stackTraces = false) (h0 : Nat) (p0 : Int32) (ao hd hse hki hma hst hsp hlp htl hj hpr hqd : Nat) (cJ : ClassId) (fo : Nat → Int64) (sz : Nat) : Met l yL_bestBlock v_c_L_bestBlock ({ frames := 8, cells := 1, slots := 6, locals := 126 }) (fz_P (dC, dI) e0 [(h0, .inr (12, [.ref hd, .ref hse, .ref hki, .ref hma, .ref hst, .ref hsp, .ref hlp, .ref htl, .int 0, .int 0, .int 0, .int 0, .int 0, .int 0, .int 0, .long ((0 : Int32).toInt64)])), (hd, .inr (6, [.ref hj, .ref hpr, .ref hqd, .int 0, .int 0, .int 1])), (ao, .inl (cJ, 1, .inr (.inl fo)))] [(cJ, .long)] sz (va_A [(h0, .inr (12, [.ref hd, .ref hse, .ref hki, .ref hma, .ref hst, .ref hsp, .ref hlp, .ref htl, .int 0, .int 0, .int 0, .int 0, .int 0, .int 0, .int 0, .long ((0 : Int32).toInt64)])), (hd, .inr (6, [.ref hj, .ref hpr, .ref hqd, .int 0, .int 0, .int 1])), (ao, .inl (cJ, 1, .inr (.inl fo)))] sz) [.ref h0, .int p0, .ref ao]) (va_Qi (fun (r : Int32) (u : Int64) => r = 1) (fun (u : Int64) (t : State) => ∃ fo2 : Nat → Int64, (fo2 0 = u) ∧ va_P (dC, dI) vwCl [(ao, .inl (cJ, 1, .inr (.inl fo2)))] t.heap ∧ va_K (dC, dI) vwCl [(cJ, .long)] t ∧ va_D (va_A [(h0, .inr (12, [.ref hd, .ref hse, .ref hki, .ref hma, .ref hst, .ref hsp, .ref hlp, .ref htl, .int 0, .int 0, .int 0, .int 0, .int 0, .int 0, .int 0, .long ((0 : Int32).toInt64)])), (hd, .inr (6, [.ref hj, .ref hpr, .ref hqd, .int 0, .int 0, .int 1])), (ao, .inl (cJ, 1, .inr (.inl fo)))] sz) [(ao, .inl (cJ, 1, .inr (.inl fo2)))]) (va_A [(h0, .inr (12, [.ref hd, .ref hse, .ref hki, .ref hma, .ref hst, .ref hsp, .ref hlp, .ref htl, .int 0, .int 0, .int 0, .int 0, .int 0, .int 0, .int 0, .long ((0 : Int32).toInt64)])), (hd, .inr (6, [.ref hj, .ref hpr, .ref hqd, .int 0, .int 0, .int 1])), (ao, .inl (cJ, 1, .inr (.inl fo)))] sz)) 1 6 (va_A [(h0, .inr (12, [.ref hd, .ref hse, .ref hki, .ref hma, .ref hst, .ref hsp, .ref hlp, .ref htl, .int 0, .int 0, .int 0, .int 0, .int 0, .int 0, .int 0, .long ((0 : Int32).toInt64)])), (hd, .inr (6, [.ref hj, .ref hpr, .ref hqd, .int 0, .int 0, .int 1])), (ao, .inl (cJ, 1, .inr (.inl fo)))] sz) := by
  refine va_MetW (cc := cL_bestBlock) (maxL := 4) (ret := (some .int)) (by decide) rfl ?_
  intro p e s m args below meth c s₁ B hml hv
  obtain ⟨rfl, hsz, hP, hK, hD0, hAm⟩ := hv
  have hx := B.exec
  have hb := B.bytes
  have hr := B.returns
  have hts := atoms_spec (ws := v_c_L_bestBlock) B.pre
  have hown : s.vm.findClass RL = some m.cls := findClass_of_methodNamed B.named
  have hlocks := B.notSynchronized
  have htab := vx_table (x := yL_bestBlock) B (hts _ List.mem_cons_self)
  subst hsz
  have hD := hD0.self (sz := s.heap.size)
  generalize hAe : va_A [(h0, .inr (12, [.ref hd, .ref hse, .ref hki, .ref hma, .ref hst, .ref hsp, .ref hlp, .ref htl, .int 0, .int 0, .int 0, .int 0, .int 0, .int 0, .int 0, .long ((0 : Int32).toInt64)])), (hd, .inr (6, [.ref hj, .ref hpr, .ref hqd, .int 0, .int 0, .int 1])), (ao, .inl (cJ, 1, .inr (.inl fo)))] s.heap.size = A at hD hAm ⊢
  have hA : ∀ q : Nat, s.heap.size ≤ q → A q := fun q h => by rw [← hAe]; exact Or.inr h
  have hS : va_S A s.heap s.heap [] := va_S.rf
  have hP : va_P (dC, dI) vwCl [(h0, .inr (12, [.ref hd, .ref hse, .ref hki, .ref hma, .ref hst, .ref hsp, .ref hlp, .ref htl, .int 0, .int 0, .int 0, .int 0, .int 0, .int 0, .int 0, .long ((0 : Int32).toInt64)])), (hd, .inr (6, [.ref hj, .ref hpr, .ref hqd, .int 0, .int 0, .int 1])), (ao, .inl (cJ, 1, .inr (.inl fo)))] s.heap := hP
  have hl := lv_entry ([.ref h0, .int p0, .ref ao]) (n := 4) (Nat.le_of_ble_eq_true rfl)
  rw [lg_entry_eq]
  generalize (lg_sl ([.ref h0, .int p0, .ref ao]) ++ List.replicate (4 - (lg_sl ([.ref h0, .int p0, .ref ao])).length) Slot.unset).toArray = ls at hl ⊢
  have hl : lv_has ls 4 [(0, .ref h0), (1, .int p0), (2, .ref ao)] := hl
  refine lv_aload_n hx hb dL_bestBlock_0 rfl (lv_at hl 2 rfl) ?_
  refine lv_iconst (v := 0) hx hb dL_bestBlock_1 (by decide) ?_
  refine lv_aload_n hx hb dL_bestBlock_2 rfl (lv_at hl 0 rfl) ?_
  refine lv_iload_n hx hb dL_bestBlock_3 rfl (lv_at hl 1 rfl) ?_
  have hPc := hP.sub (ws' := [(h0, .inr (12, [.ref hd, .ref hse, .ref hki, .ref hma, .ref hst, .ref hsp, .ref hlp, .ref htl, .int 0, .int 0, .int 0, .int 0, .int 0, .int 0, .int 0, .long ((0 : Int32).toInt64)])), (hd, .inr (6, [.ref hj, .ref hpr, .ref hqd, .int 0, .int 0, .int 1]))]) [0, 1] rfl
  have hDc := hD.sub (ws' := [(h0, .inr (12, [.ref hd, .ref hse, .ref hki, .ref hma, .ref hst, .ref hsp, .ref hlp, .ref htl, .int 0, .int 0, .int 0, .int 0, .int 0, .int 0, .int 0, .long ((0 : Int32).toInt64)])), (hd, .inr (6, [.ref hj, .ref hpr, .ref hqd, .int 0, .int 0, .int 1]))]) [0, 1] (by decide) rfl
  have hKc := hK.sub (tys' := []) [] rfl
  have hFc : ∀ q : Nat, s.heap.size ≤ q → A q := fun q h => hA q (Nat.le_trans hS.1 h)
  refine vx_calli (vx_runV (As := [.int p0]) (rest := [.int 0, .ref ao]) ⟨hx, hb, hml, hown, hts⟩ (c_X7_bestBlock l dC dI e0 hlT h0 p0 hd hse hki hma hst hsp hlp htl hj hpr hqd s.heap.size) (cwV 1 hts (goodIn_sub (fun _ h9 => List.mem_cons_of_mem _ (List.mem_append_right _ (h9))) (by decide +kernel)) rfl rfl rfl (by decide +kernel) ⟨(Nat.le_of_ble_eq_true rfl), (Nat.le_of_ble_eq_true rfl)⟩) ⟨fz_blind, va_recv hKc hPc (ci := 12) (q0 := 0) rfl rfl, fz_pre hPc hKc hDc hAm hS hFc⟩ rfl rfl hl.1 rfl (lv_room (Nat.le_of_ble_eq_true rfl)) dL_bestBlock_4 ⟨(Nat.le_of_ble_eq_true rfl), (Nat.le_of_ble_eq_true rfl)⟩) hS (fun q _ h => hFc q h) hFc (fun q _ h => hFc q h) (fun E ce q9 u t H1 locs ht hvm hpx hBX hz1 hk1 hS hce hcv hcl => ?_) (fun r u t H1 locs ht hvm hw hB hz1 hk1 hS => ?_)
  · obtain rfl := hBX
    have hP := fz_keep hP hk1
    generalize H1 = H at hP hS hce ⊢
    have hP : va_P (dC, dI) vwCl [(h0, .inr (12, [.ref hd, .ref hse, .ref hki, .ref hma, .ref hst, .ref hsp, .ref hlp, .ref htl, .int 0, .int 0, .int 0, .int 0, .int 0, .int 0, .int 0, .long ((0 : Int32).toInt64)])), (hd, .inr (6, [.ref hj, .ref hpr, .ref hqd, .int 0, .int 0, .int 1])), (ao, .inl (cJ, 1, .inr (.inl fo)))] H := hP
    have hD : va_D A [(h0, .inr (12, [.ref hd, .ref hse, .ref hki, .ref hma, .ref hst, .ref hsp, .ref hlp, .ref htl, .int 0, .int 0, .int 0, .int 0, .int 0, .int 0, .int 0, .long ((0 : Int32).toInt64)])), (hd, .inr (6, [.ref hj, .ref hpr, .ref hqd, .int 0, .int 0, .int 1])), (ao, .inl (cJ, 1, .inr (.inl fo)))] := hD
    refine vx_widen (k := 1) (n := 6) (Nat.le_of_ble_eq_true rfl) (Nat.le_of_ble_eq_true rfl) ?_
    refine vx_catch (own := RL) (name := "java/lang/IndexOutOfBoundsException") hown [] ⟨0, 9, 12, 23⟩ [⟨0, 9, 15, 39⟩] htab (fun z hz => nomatch hz) (by decide) (by decide) (hts _ (List.mem_cons_of_mem _ (List.mem_append_left _ (List.mem_of_getElem? (i := 0) rfl)))) (hAm.1.2.1 _ fz_x_IndexOutOfBounds).use hce hcv hcl ?_
    refine W.eq (g2 := F0 m 12 ls [.ref q9]) rfl ?_
    refine lv_astore_n (lv' := [(3, .ref q9), (0, .ref h0), (1, .int p0), (2, .ref ao)]) hx hb dL_bestBlock_12 rfl hl (by decide) rfl (fun ls hl => ?_)
    refine lv_iconst (v := 1) hx hb dL_bestBlock_13 (by decide) ?_
    have hP9 := hP.sub (ws' := [(ao, .inl (cJ, 1, .inr (.inl fo)))]) [2] rfl
    have hD9 := hD.sub (ws' := [(ao, .inl (cJ, 1, .inr (.inl fo)))]) [2] (by decide) rfl
    have hK9 := hK.sub (tys' := [(cJ, .long)]) [0] rfl
    refine W.widen (k := 1) (n := 6) (Nat.le_of_ble_eq_true rfl) (Nat.le_of_ble_eq_true rfl) ?_
    exact W.iret (v := 1) hx hb hr (fun t ht hW => ⟨⟨1, (fo 0), rfl, rfl, ⟨fo, (by first | rfl | simp [vp_updL]), by rw [ht]; exact hP9, va_K.moved hW.alike hK9, hD9⟩⟩, hS.F ht⟩) hS.2.2 dL_bestBlock_14
  · exact hw.elim
def v_c_L_stoneIn : List Cond := .codeWith yL_stoneIn cL_stoneIn 4 (some .int) [(0, 9, 12, 23), (0, 9, 15, 39)] :: ([.classLink RL 23 "java/lang/IndexOutOfBoundsException"] ++ (wsV RL 90 RX7 yX7_stoneIn v_c_X7_stoneIn))
set_option maxRecDepth 20000 in
theorem i_c_L_stoneIn : ∀ w ∈ v_c_L_stoneIn, w ∈ lw_tbl := List.forall_mem_cons.mpr ⟨List.mem_of_getElem? (i := 1221) (by decide +kernel), List.forall_mem_append.mpr ⟨List.forall_mem_cons.mpr ⟨List.mem_of_getElem? (i := 577) (by decide +kernel), fun _ h => absurd h List.not_mem_nil⟩, (by unfold wsV; exact List.forall_mem_append.mpr ⟨List.forall_mem_cons.mpr ⟨List.mem_of_getElem? (i := 1222) (by decide +kernel), List.forall_mem_cons.mpr ⟨List.mem_of_getElem? (i := 1223) (by decide +kernel), List.forall_mem_cons.mpr ⟨List.mem_of_getElem? (i := 1224) (by decide +kernel), List.forall_mem_cons.mpr ⟨List.mem_of_getElem? (i := 49) (by decide +kernel), fun _ h => absurd h List.not_mem_nil⟩⟩⟩⟩, i_c_X7_stoneIn⟩)⟩⟩
set_option maxHeartbeats 4000000 in
set_option maxRecDepth 100000 in
theorem c_L_stoneIn (l : Launch) (dC : Nat → ClassId) (dI : Nat → Nat → Nat) (e0 : Nat) (hlT : l.stackTraces = false) (h0 : Nat) (p0 : Int32) (ao hd hse hki hma hst hsp hlp htl hj hpr hqd : Nat) (cJ : ClassId) (fo : Nat → Int64) (sz : Nat) : Met l yL_stoneIn v_c_L_stoneIn ({ frames := 8, cells := 1, slots := 6, locals := 122 }) (fz_P (dC, dI) e0 [(h0, .inr (12, [.ref hd, .ref hse, .ref hki, .ref hma, .ref hst, .ref hsp, .ref hlp, .ref htl, .int 0, .int 0, .int 0, .int 0, .int 0, .int 0, .int 0, .long ((0 : Int32).toInt64)])), (hd, .inr (6, [.ref hj, .ref hpr, .ref hqd, .int 0, .int 0, .int 1])), (ao, .inl (cJ, 1, .inr (.inl fo)))] [(cJ, .long)] sz (va_A [(h0, .inr (12, [.ref hd, .ref hse, .ref hki, .ref hma, .ref hst, .ref hsp, .ref hlp, .ref htl, .int 0, .int 0, .int 0, .int 0, .int 0, .int 0, .int 0, .long ((0 : Int32).toInt64)])), (hd, .inr (6, [.ref hj, .ref hpr, .ref hqd, .int 0, .int 0, .int 1])), (ao, .inl (cJ, 1, .inr (.inl fo)))] sz) [.ref h0, .int p0, .ref ao]) (va_Qi (fun (r : Int32) (u : Int64) => r = 1) (fun (u : Int64) (t : State) => ∃ fo2 : Nat → Int64, (fo2 0 = u) ∧ va_P (dC, dI) vwCl [(ao, .inl (cJ, 1, .inr (.inl fo2)))] t.heap ∧ va_K (dC, dI) vwCl [(cJ, .long)] t ∧ va_D (va_A [(h0, .inr (12, [.ref hd, .ref hse, .ref hki, .ref hma, .ref hst, .ref hsp, .ref hlp, .ref htl, .int 0, .int 0, .int 0, .int 0, .int 0, .int 0, .int 0, .long ((0 : Int32).toInt64)])), (hd, .inr (6, [.ref hj, .ref hpr, .ref hqd, .int 0, .int 0, .int 1])), (ao, .inl (cJ, 1, .inr (.inl fo)))] sz) [(ao, .inl (cJ, 1, .inr (.inl fo2)))]) (va_A [(h0, .inr (12, [.ref hd, .ref hse, .ref hki, .ref hma, .ref hst, .ref hsp, .ref hlp, .ref htl, .int 0, .int 0, .int 0, .int 0, .int 0, .int 0, .int 0, .long ((0 : Int32).toInt64)])), (hd, .inr (6, [.ref hj, .ref hpr, .ref hqd, .int 0, .int 0, .int 1])), (ao, .inl (cJ, 1, .inr (.inl fo)))] sz)) 1 6 (va_A [(h0, .inr (12, [.ref hd, .ref hse, .ref hki, .ref hma, .ref hst, .ref hsp, .ref hlp, .ref htl, .int 0, .int 0, .int 0, .int 0, .int 0, .int 0, .int 0, .long ((0 : Int32).toInt64)])), (hd, .inr (6, [.ref hj, .ref hpr, .ref hqd, .int 0, .int 0, .int 1])), (ao, .inl (cJ, 1, .inr (.inl fo)))] sz) := by
  refine va_MetW (cc := cL_stoneIn) (maxL := 4) (ret := (some .int)) (by decide) rfl ?_
  intro p e s m args below meth c s₁ B hml hv
  obtain ⟨rfl, hsz, hP, hK, hD0, hAm⟩ := hv
  have hx := B.exec
  have hb := B.bytes
  have hr := B.returns
  have hts := atoms_spec (ws := v_c_L_stoneIn) B.pre
  have hown : s.vm.findClass RL = some m.cls := findClass_of_methodNamed B.named
  have hlocks := B.notSynchronized
  have htab := vx_table (x := yL_stoneIn) B (hts _ List.mem_cons_self)
  subst hsz
  have hD := hD0.self (sz := s.heap.size)
  generalize hAe : va_A [(h0, .inr (12, [.ref hd, .ref hse, .ref hki, .ref hma, .ref hst, .ref hsp, .ref hlp, .ref htl, .int 0, .int 0, .int 0, .int 0, .int 0, .int 0, .int 0, .long ((0 : Int32).toInt64)])), (hd, .inr (6, [.ref hj, .ref hpr, .ref hqd, .int 0, .int 0, .int 1])), (ao, .inl (cJ, 1, .inr (.inl fo)))] s.heap.size = A at hD hAm ⊢
  have hA : ∀ q : Nat, s.heap.size ≤ q → A q := fun q h => by rw [← hAe]; exact Or.inr h
  have hS : va_S A s.heap s.heap [] := va_S.rf
  have hP : va_P (dC, dI) vwCl [(h0, .inr (12, [.ref hd, .ref hse, .ref hki, .ref hma, .ref hst, .ref hsp, .ref hlp, .ref htl, .int 0, .int 0, .int 0, .int 0, .int 0, .int 0, .int 0, .long ((0 : Int32).toInt64)])), (hd, .inr (6, [.ref hj, .ref hpr, .ref hqd, .int 0, .int 0, .int 1])), (ao, .inl (cJ, 1, .inr (.inl fo)))] s.heap := hP
  have hl := lv_entry ([.ref h0, .int p0, .ref ao]) (n := 4) (Nat.le_of_ble_eq_true rfl)
  rw [lg_entry_eq]
  generalize (lg_sl ([.ref h0, .int p0, .ref ao]) ++ List.replicate (4 - (lg_sl ([.ref h0, .int p0, .ref ao])).length) Slot.unset).toArray = ls at hl ⊢
  have hl : lv_has ls 4 [(0, .ref h0), (1, .int p0), (2, .ref ao)] := hl
  refine lv_aload_n hx hb dL_stoneIn_0 rfl (lv_at hl 2 rfl) ?_
  refine lv_iconst (v := 0) hx hb dL_stoneIn_1 (by decide) ?_
  refine lv_aload_n hx hb dL_stoneIn_2 rfl (lv_at hl 0 rfl) ?_
  refine lv_iload_n hx hb dL_stoneIn_3 rfl (lv_at hl 1 rfl) ?_
  have hPc := hP.sub (ws' := [(h0, .inr (12, [.ref hd, .ref hse, .ref hki, .ref hma, .ref hst, .ref hsp, .ref hlp, .ref htl, .int 0, .int 0, .int 0, .int 0, .int 0, .int 0, .int 0, .long ((0 : Int32).toInt64)])), (hd, .inr (6, [.ref hj, .ref hpr, .ref hqd, .int 0, .int 0, .int 1]))]) [0, 1] rfl
  have hDc := hD.sub (ws' := [(h0, .inr (12, [.ref hd, .ref hse, .ref hki, .ref hma, .ref hst, .ref hsp, .ref hlp, .ref htl, .int 0, .int 0, .int 0, .int 0, .int 0, .int 0, .int 0, .long ((0 : Int32).toInt64)])), (hd, .inr (6, [.ref hj, .ref hpr, .ref hqd, .int 0, .int 0, .int 1]))]) [0, 1] (by decide) rfl
  have hKc := hK.sub (tys' := []) [] rfl
  have hFc : ∀ q : Nat, s.heap.size ≤ q → A q := fun q h => hA q (Nat.le_trans hS.1 h)
  refine vx_calli (vx_runV (As := [.int p0]) (rest := [.int 0, .ref ao]) ⟨hx, hb, hml, hown, hts⟩ (c_X7_stoneIn l dC dI e0 hlT h0 p0 hd hse hki hma hst hsp hlp htl hj hpr hqd s.heap.size) (cwV 1 hts (goodIn_sub (fun _ h9 => List.mem_cons_of_mem _ (List.mem_append_right _ (h9))) (by decide +kernel)) rfl rfl rfl (by decide +kernel) ⟨(Nat.le_of_ble_eq_true rfl), (Nat.le_of_ble_eq_true rfl)⟩) ⟨fz_blind, va_recv hKc hPc (ci := 12) (q0 := 0) rfl rfl, fz_pre hPc hKc hDc hAm hS hFc⟩ rfl rfl hl.1 rfl (lv_room (Nat.le_of_ble_eq_true rfl)) dL_stoneIn_4 ⟨(Nat.le_of_ble_eq_true rfl), (Nat.le_of_ble_eq_true rfl)⟩) hS (fun q _ h => hFc q h) hFc (fun q _ h => hFc q h) (fun E ce q9 u t H1 locs ht hvm hpx hBX hz1 hk1 hS hce hcv hcl => ?_) (fun r u t H1 locs ht hvm hw hB hz1 hk1 hS => ?_)
  · obtain rfl := hBX
    have hP := fz_keep hP hk1
    generalize H1 = H at hP hS hce ⊢
    have hP : va_P (dC, dI) vwCl [(h0, .inr (12, [.ref hd, .ref hse, .ref hki, .ref hma, .ref hst, .ref hsp, .ref hlp, .ref htl, .int 0, .int 0, .int 0, .int 0, .int 0, .int 0, .int 0, .long ((0 : Int32).toInt64)])), (hd, .inr (6, [.ref hj, .ref hpr, .ref hqd, .int 0, .int 0, .int 1])), (ao, .inl (cJ, 1, .inr (.inl fo)))] H := hP
    have hD : va_D A [(h0, .inr (12, [.ref hd, .ref hse, .ref hki, .ref hma, .ref hst, .ref hsp, .ref hlp, .ref htl, .int 0, .int 0, .int 0, .int 0, .int 0, .int 0, .int 0, .long ((0 : Int32).toInt64)])), (hd, .inr (6, [.ref hj, .ref hpr, .ref hqd, .int 0, .int 0, .int 1])), (ao, .inl (cJ, 1, .inr (.inl fo)))] := hD
    refine vx_widen (k := 1) (n := 6) (Nat.le_of_ble_eq_true rfl) (Nat.le_of_ble_eq_true rfl) ?_
    refine vx_catch (own := RL) (name := "java/lang/IndexOutOfBoundsException") hown [] ⟨0, 9, 12, 23⟩ [⟨0, 9, 15, 39⟩] htab (fun z hz => nomatch hz) (by decide) (by decide) (hts _ (List.mem_cons_of_mem _ (List.mem_append_left _ (List.mem_of_getElem? (i := 0) rfl)))) (hAm.1.2.1 _ fz_x_IndexOutOfBounds).use hce hcv hcl ?_
    refine W.eq (g2 := F0 m 12 ls [.ref q9]) rfl ?_
    refine lv_astore_n (lv' := [(3, .ref q9), (0, .ref h0), (1, .int p0), (2, .ref ao)]) hx hb dL_stoneIn_12 rfl hl (by decide) rfl (fun ls hl => ?_)
    refine lv_iconst (v := 1) hx hb dL_stoneIn_13 (by decide) ?_
    have hP9 := hP.sub (ws' := [(ao, .inl (cJ, 1, .inr (.inl fo)))]) [2] rfl
    have hD9 := hD.sub (ws' := [(ao, .inl (cJ, 1, .inr (.inl fo)))]) [2] (by decide) rfl
    have hK9 := hK.sub (tys' := [(cJ, .long)]) [0] rfl
    refine W.widen (k := 1) (n := 6) (Nat.le_of_ble_eq_true rfl) (Nat.le_of_ble_eq_true rfl) ?_
    exact W.iret (v := 1) hx hb hr (fun t ht hW => ⟨⟨1, (fo 0), rfl, rfl, ⟨fo, (by first | rfl | simp [vp_updL]), by rw [ht]; exact hP9, va_K.moved hW.alike hK9, hD9⟩⟩, hS.F ht⟩) hS.2.2 dL_stoneIn_14
  · exact hw.elim
def v_c_L_blocks : List Cond := .codeWith yL_blocks cL_blocks 4 (some .int) [(0, 9, 12, 23)] :: ([.classLink RL 23 "java/lang/IndexOutOfBoundsException"] ++ (wsV RL 53 RX7 yX7_blocks v_c_X7_blocks))
set_option maxRecDepth 20000 in
theorem i_c_L_blocks : ∀ w ∈ v_c_L_blocks, w ∈ lw_tbl := List.forall_mem_cons.mpr ⟨List.mem_of_getElem? (i := 749) (by decide +kernel), List.forall_mem_append.mpr ⟨List.forall_mem_cons.mpr ⟨List.mem_of_getElem? (i := 577) (by decide +kernel), fun _ h => absurd h List.not_mem_nil⟩, (by unfold wsV; exact List.forall_mem_append.mpr ⟨List.forall_mem_cons.mpr ⟨List.mem_of_getElem? (i := 750) (by decide +kernel), List.forall_mem_cons.mpr ⟨List.mem_of_getElem? (i := 751) (by decide +kernel), List.forall_mem_cons.mpr ⟨List.mem_of_getElem? (i := 752) (by decide +kernel), List.forall_mem_cons.mpr ⟨List.mem_of_getElem? (i := 49) (by decide +kernel), fun _ h => absurd h List.not_mem_nil⟩⟩⟩⟩, i_c_X7_blocks⟩)⟩⟩
set_option maxHeartbeats 4000000 in
set_option maxRecDepth 100000 in
theorem c_L_blocks (l : Launch) (dC : Nat → ClassId) (dI : Nat → Nat → Nat) (e0 : Nat) (hlT : l.stackTraces = false) (h0 : Nat) (p0 : Int32) (ao hd hse hki hma hst hsp hlp htl : Nat) (cJ : ClassId) (fo : Nat → Int64) (sz : Nat) : Met l yL_blocks v_c_L_blocks ({ frames := 8, cells := 1, slots := 6, locals := 122 }) (fz_P (dC, dI) e0 [(h0, .inr (12, [.ref hd, .ref hse, .ref hki, .ref hma, .ref hst, .ref hsp, .ref hlp, .ref htl, .int 0, .int 0, .int 0, .int 0, .int 0, .int 0, .int 0, .long ((0 : Int32).toInt64)])), (ao, .inl (cJ, 1, .inr (.inl fo)))] [(cJ, .long)] sz (va_A [(h0, .inr (12, [.ref hd, .ref hse, .ref hki, .ref hma, .ref hst, .ref hsp, .ref hlp, .ref htl, .int 0, .int 0, .int 0, .int 0, .int 0, .int 0, .int 0, .long ((0 : Int32).toInt64)])), (ao, .inl (cJ, 1, .inr (.inl fo)))] sz) [.ref h0, .int p0, .ref ao]) (va_Qi (fun (r : Int32) (u : Int64) => r = 1) (fun (u : Int64) (t : State) => ∃ fo2 : Nat → Int64, (fo2 0 = u) ∧ va_P (dC, dI) vwCl [(ao, .inl (cJ, 1, .inr (.inl fo2)))] t.heap ∧ va_K (dC, dI) vwCl [(cJ, .long)] t ∧ va_D (va_A [(h0, .inr (12, [.ref hd, .ref hse, .ref hki, .ref hma, .ref hst, .ref hsp, .ref hlp, .ref htl, .int 0, .int 0, .int 0, .int 0, .int 0, .int 0, .int 0, .long ((0 : Int32).toInt64)])), (ao, .inl (cJ, 1, .inr (.inl fo)))] sz) [(ao, .inl (cJ, 1, .inr (.inl fo2)))]) (va_A [(h0, .inr (12, [.ref hd, .ref hse, .ref hki, .ref hma, .ref hst, .ref hsp, .ref hlp, .ref htl, .int 0, .int 0, .int 0, .int 0, .int 0, .int 0, .int 0, .long ((0 : Int32).toInt64)])), (ao, .inl (cJ, 1, .inr (.inl fo)))] sz)) 1 6 (va_A [(h0, .inr (12, [.ref hd, .ref hse, .ref hki, .ref hma, .ref hst, .ref hsp, .ref hlp, .ref htl, .int 0, .int 0, .int 0, .int 0, .int 0, .int 0, .int 0, .long ((0 : Int32).toInt64)])), (ao, .inl (cJ, 1, .inr (.inl fo)))] sz) := by
  refine va_MetW (cc := cL_blocks) (maxL := 4) (ret := (some .int)) (by decide) rfl ?_
  intro p e s m args below meth c s₁ B hml hv
  obtain ⟨rfl, hsz, hP, hK, hD0, hAm⟩ := hv
  have hx := B.exec
  have hb := B.bytes
  have hr := B.returns
  have hts := atoms_spec (ws := v_c_L_blocks) B.pre
  have hown : s.vm.findClass RL = some m.cls := findClass_of_methodNamed B.named
  have hlocks := B.notSynchronized
  have htab := vx_table (x := yL_blocks) B (hts _ List.mem_cons_self)
  subst hsz
  have hD := hD0.self (sz := s.heap.size)
  generalize hAe : va_A [(h0, .inr (12, [.ref hd, .ref hse, .ref hki, .ref hma, .ref hst, .ref hsp, .ref hlp, .ref htl, .int 0, .int 0, .int 0, .int 0, .int 0, .int 0, .int 0, .long ((0 : Int32).toInt64)])), (ao, .inl (cJ, 1, .inr (.inl fo)))] s.heap.size = A at hD hAm ⊢
  have hA : ∀ q : Nat, s.heap.size ≤ q → A q := fun q h => by rw [← hAe]; exact Or.inr h
  have hS : va_S A s.heap s.heap [] := va_S.rf
  have hP : va_P (dC, dI) vwCl [(h0, .inr (12, [.ref hd, .ref hse, .ref hki, .ref hma, .ref hst, .ref hsp, .ref hlp, .ref htl, .int 0, .int 0, .int 0, .int 0, .int 0, .int 0, .int 0, .long ((0 : Int32).toInt64)])), (ao, .inl (cJ, 1, .inr (.inl fo)))] s.heap := hP
  have hl := lv_entry ([.ref h0, .int p0, .ref ao]) (n := 4) (Nat.le_of_ble_eq_true rfl)
  rw [lg_entry_eq]
  generalize (lg_sl ([.ref h0, .int p0, .ref ao]) ++ List.replicate (4 - (lg_sl ([.ref h0, .int p0, .ref ao])).length) Slot.unset).toArray = ls at hl ⊢
  have hl : lv_has ls 4 [(0, .ref h0), (1, .int p0), (2, .ref ao)] := hl
  refine lv_aload_n hx hb dL_blocks_0 rfl (lv_at hl 2 rfl) ?_
  refine lv_iconst (v := 0) hx hb dL_blocks_1 (by decide) ?_
  refine lv_aload_n hx hb dL_blocks_2 rfl (lv_at hl 0 rfl) ?_
  refine lv_iload_n hx hb dL_blocks_3 rfl (lv_at hl 1 rfl) ?_
  have hPc := hP.sub (ws' := [(h0, .inr (12, [.ref hd, .ref hse, .ref hki, .ref hma, .ref hst, .ref hsp, .ref hlp, .ref htl, .int 0, .int 0, .int 0, .int 0, .int 0, .int 0, .int 0, .long ((0 : Int32).toInt64)]))]) [0] rfl
  have hDc := hD.sub (ws' := [(h0, .inr (12, [.ref hd, .ref hse, .ref hki, .ref hma, .ref hst, .ref hsp, .ref hlp, .ref htl, .int 0, .int 0, .int 0, .int 0, .int 0, .int 0, .int 0, .long ((0 : Int32).toInt64)]))]) [0] (by decide) rfl
  have hKc := hK.sub (tys' := []) [] rfl
  have hFc : ∀ q : Nat, s.heap.size ≤ q → A q := fun q h => hA q (Nat.le_trans hS.1 h)
  refine vx_calli (vx_runV (As := [.int p0]) (rest := [.int 0, .ref ao]) ⟨hx, hb, hml, hown, hts⟩ (c_X7_blocks l dC dI e0 hlT h0 p0 hd hse hki hma hst hsp hlp htl s.heap.size) (cwV 1 hts (goodIn_sub (fun _ h9 => List.mem_cons_of_mem _ (List.mem_append_right _ (h9))) (by decide +kernel)) rfl rfl rfl (by decide +kernel) ⟨(Nat.le_of_ble_eq_true rfl), (Nat.le_of_ble_eq_true rfl)⟩) ⟨fz_blind, va_recv hKc hPc (ci := 12) (q0 := 0) rfl rfl, fz_pre hPc hKc hDc hAm hS hFc⟩ rfl rfl hl.1 rfl (lv_room (Nat.le_of_ble_eq_true rfl)) dL_blocks_4 ⟨(Nat.le_of_ble_eq_true rfl), (Nat.le_of_ble_eq_true rfl)⟩) hS (fun q _ h => hFc q h) hFc (fun q _ h => hFc q h) (fun E ce q9 u t H1 locs ht hvm hpx hBX hz1 hk1 hS hce hcv hcl => ?_) (fun r u t H1 locs ht hvm hw hB hz1 hk1 hS => ?_)
  · obtain rfl := hBX
    have hP := fz_keep hP hk1
    generalize H1 = H at hP hS hce ⊢
    have hP : va_P (dC, dI) vwCl [(h0, .inr (12, [.ref hd, .ref hse, .ref hki, .ref hma, .ref hst, .ref hsp, .ref hlp, .ref htl, .int 0, .int 0, .int 0, .int 0, .int 0, .int 0, .int 0, .long ((0 : Int32).toInt64)])), (ao, .inl (cJ, 1, .inr (.inl fo)))] H := hP
    have hD : va_D A [(h0, .inr (12, [.ref hd, .ref hse, .ref hki, .ref hma, .ref hst, .ref hsp, .ref hlp, .ref htl, .int 0, .int 0, .int 0, .int 0, .int 0, .int 0, .int 0, .long ((0 : Int32).toInt64)])), (ao, .inl (cJ, 1, .inr (.inl fo)))] := hD
    refine vx_widen (k := 1) (n := 6) (Nat.le_of_ble_eq_true rfl) (Nat.le_of_ble_eq_true rfl) ?_
    refine vx_catch (own := RL) (name := "java/lang/IndexOutOfBoundsException") hown [] ⟨0, 9, 12, 23⟩ [] htab (fun z hz => nomatch hz) (by decide) (by decide) (hts _ (List.mem_cons_of_mem _ (List.mem_append_left _ (List.mem_of_getElem? (i := 0) rfl)))) (hAm.1.2.1 _ fz_x_IndexOutOfBounds).use hce hcv hcl ?_
    refine W.eq (g2 := F0 m 12 ls [.ref q9]) rfl ?_
    refine lv_astore_n (lv' := [(3, .ref q9), (0, .ref h0), (1, .int p0), (2, .ref ao)]) hx hb dL_blocks_12 rfl hl (by decide) rfl (fun ls hl => ?_)
    refine lv_iconst (v := 1) hx hb dL_blocks_13 (by decide) ?_
    have hP9 := hP.sub (ws' := [(ao, .inl (cJ, 1, .inr (.inl fo)))]) [1] rfl
    have hD9 := hD.sub (ws' := [(ao, .inl (cJ, 1, .inr (.inl fo)))]) [1] (by decide) rfl
    have hK9 := hK.sub (tys' := [(cJ, .long)]) [0] rfl
    refine W.widen (k := 1) (n := 6) (Nat.le_of_ble_eq_true rfl) (Nat.le_of_ble_eq_true rfl) ?_
    exact W.iret (v := 1) hx hb hr (fun t ht hW => ⟨⟨1, (fo 0), rfl, rfl, ⟨fo, (by first | rfl | simp [vp_updL]), by rw [ht]; exact hP9, va_K.moved hW.alike hK9, hD9⟩⟩, hS.F ht⟩) hS.2.2 dL_blocks_14
  · exact hw.elim
def v_c_L_readyOn : List Cond := .codeWith yL_readyOn cL_readyOn 4 (some .int) [(0, 9, 12, 23)] :: ([.classLink RL 23 "java/lang/IndexOutOfBoundsException"] ++ (wsV RL 66 RX7 yX7_readyOn v_c_X7_readyOn))
set_option maxRecDepth 20000 in
theorem i_c_L_readyOn : ∀ w ∈ v_c_L_readyOn, w ∈ lw_tbl := List.forall_mem_cons.mpr ⟨List.mem_of_getElem? (i := 1131) (by decide +kernel), List.forall_mem_append.mpr ⟨List.forall_mem_cons.mpr ⟨List.mem_of_getElem? (i := 577) (by decide +kernel), fun _ h => absurd h List.not_mem_nil⟩, (by unfold wsV; exact List.forall_mem_append.mpr ⟨List.forall_mem_cons.mpr ⟨List.mem_of_getElem? (i := 1132) (by decide +kernel), List.forall_mem_cons.mpr ⟨List.mem_of_getElem? (i := 1133) (by decide +kernel), List.forall_mem_cons.mpr ⟨List.mem_of_getElem? (i := 1134) (by decide +kernel), List.forall_mem_cons.mpr ⟨List.mem_of_getElem? (i := 49) (by decide +kernel), fun _ h => absurd h List.not_mem_nil⟩⟩⟩⟩, i_c_X7_readyOn⟩)⟩⟩
set_option maxHeartbeats 4000000 in
set_option maxRecDepth 100000 in
theorem c_L_readyOn (l : Launch) (dC : Nat → ClassId) (dI : Nat → Nat → Nat) (e0 : Nat) (hlT : l.stackTraces = false) (h0 : Nat) (p0 : Int32) (ao hd hse hki hma hst hsp hlp htl : Nat) (cJ : ClassId) (fo : Nat → Int64) (sz : Nat) : Met l yL_readyOn v_c_L_readyOn ({ frames := 8, cells := 1, slots := 6, locals := 122 }) (fz_P (dC, dI) e0 [(h0, .inr (12, [.ref hd, .ref hse, .ref hki, .ref hma, .ref hst, .ref hsp, .ref hlp, .ref htl, .int 0, .int 0, .int 0, .int 0, .int 0, .int 0, .int 0, .long ((0 : Int32).toInt64)])), (ao, .inl (cJ, 1, .inr (.inl fo)))] [(cJ, .long)] sz (va_A [(h0, .inr (12, [.ref hd, .ref hse, .ref hki, .ref hma, .ref hst, .ref hsp, .ref hlp, .ref htl, .int 0, .int 0, .int 0, .int 0, .int 0, .int 0, .int 0, .long ((0 : Int32).toInt64)])), (ao, .inl (cJ, 1, .inr (.inl fo)))] sz) [.ref h0, .int p0, .ref ao]) (va_Qi (fun (r : Int32) (u : Int64) => r = 1) (fun (u : Int64) (t : State) => ∃ fo2 : Nat → Int64, (fo2 0 = u) ∧ va_P (dC, dI) vwCl [(ao, .inl (cJ, 1, .inr (.inl fo2)))] t.heap ∧ va_K (dC, dI) vwCl [(cJ, .long)] t ∧ va_D (va_A [(h0, .inr (12, [.ref hd, .ref hse, .ref hki, .ref hma, .ref hst, .ref hsp, .ref hlp, .ref htl, .int 0, .int 0, .int 0, .int 0, .int 0, .int 0, .int 0, .long ((0 : Int32).toInt64)])), (ao, .inl (cJ, 1, .inr (.inl fo)))] sz) [(ao, .inl (cJ, 1, .inr (.inl fo2)))]) (va_A [(h0, .inr (12, [.ref hd, .ref hse, .ref hki, .ref hma, .ref hst, .ref hsp, .ref hlp, .ref htl, .int 0, .int 0, .int 0, .int 0, .int 0, .int 0, .int 0, .long ((0 : Int32).toInt64)])), (ao, .inl (cJ, 1, .inr (.inl fo)))] sz)) 1 6 (va_A [(h0, .inr (12, [.ref hd, .ref hse, .ref hki, .ref hma, .ref hst, .ref hsp, .ref hlp, .ref htl, .int 0, .int 0, .int 0, .int 0, .int 0, .int 0, .int 0, .long ((0 : Int32).toInt64)])), (ao, .inl (cJ, 1, .inr (.inl fo)))] sz) := by
  refine va_MetW (cc := cL_readyOn) (maxL := 4) (ret := (some .int)) (by decide) rfl ?_
  intro p e s m args below meth c s₁ B hml hv
  obtain ⟨rfl, hsz, hP, hK, hD0, hAm⟩ := hv
  have hx := B.exec
  have hb := B.bytes
  have hr := B.returns
  have hts := atoms_spec (ws := v_c_L_readyOn) B.pre
  have hown : s.vm.findClass RL = some m.cls := findClass_of_methodNamed B.named
  have hlocks := B.notSynchronized
  have htab := vx_table (x := yL_readyOn) B (hts _ List.mem_cons_self)
  subst hsz
  have hD := hD0.self (sz := s.heap.size)
  generalize hAe : va_A [(h0, .inr (12, [.ref hd, .ref hse, .ref hki, .ref hma, .ref hst, .ref hsp, .ref hlp, .ref htl, .int 0, .int 0, .int 0, .int 0, .int 0, .int 0, .int 0, .long ((0 : Int32).toInt64)])), (ao, .inl (cJ, 1, .inr (.inl fo)))] s.heap.size = A at hD hAm ⊢
  have hA : ∀ q : Nat, s.heap.size ≤ q → A q := fun q h => by rw [← hAe]; exact Or.inr h
  have hS : va_S A s.heap s.heap [] := va_S.rf
  have hP : va_P (dC, dI) vwCl [(h0, .inr (12, [.ref hd, .ref hse, .ref hki, .ref hma, .ref hst, .ref hsp, .ref hlp, .ref htl, .int 0, .int 0, .int 0, .int 0, .int 0, .int 0, .int 0, .long ((0 : Int32).toInt64)])), (ao, .inl (cJ, 1, .inr (.inl fo)))] s.heap := hP
  have hl := lv_entry ([.ref h0, .int p0, .ref ao]) (n := 4) (Nat.le_of_ble_eq_true rfl)
  rw [lg_entry_eq]
  generalize (lg_sl ([.ref h0, .int p0, .ref ao]) ++ List.replicate (4 - (lg_sl ([.ref h0, .int p0, .ref ao])).length) Slot.unset).toArray = ls at hl ⊢
  have hl : lv_has ls 4 [(0, .ref h0), (1, .int p0), (2, .ref ao)] := hl
  refine lv_aload_n hx hb dL_readyOn_0 rfl (lv_at hl 2 rfl) ?_
  refine lv_iconst (v := 0) hx hb dL_readyOn_1 (by decide) ?_
  refine lv_aload_n hx hb dL_readyOn_2 rfl (lv_at hl 0 rfl) ?_
  refine lv_iload_n hx hb dL_readyOn_3 rfl (lv_at hl 1 rfl) ?_
  have hPc := hP.sub (ws' := [(h0, .inr (12, [.ref hd, .ref hse, .ref hki, .ref hma, .ref hst, .ref hsp, .ref hlp, .ref htl, .int 0, .int 0, .int 0, .int 0, .int 0, .int 0, .int 0, .long ((0 : Int32).toInt64)]))]) [0] rfl
  have hDc := hD.sub (ws' := [(h0, .inr (12, [.ref hd, .ref hse, .ref hki, .ref hma, .ref hst, .ref hsp, .ref hlp, .ref htl, .int 0, .int 0, .int 0, .int 0, .int 0, .int 0, .int 0, .long ((0 : Int32).toInt64)]))]) [0] (by decide) rfl
  have hKc := hK.sub (tys' := []) [] rfl
  have hFc : ∀ q : Nat, s.heap.size ≤ q → A q := fun q h => hA q (Nat.le_trans hS.1 h)
  refine vx_calli (vx_runV (As := [.int p0]) (rest := [.int 0, .ref ao]) ⟨hx, hb, hml, hown, hts⟩ (c_X7_readyOn l dC dI e0 hlT h0 p0 hd hse hki hma hst hsp hlp htl s.heap.size) (cwV 1 hts (goodIn_sub (fun _ h9 => List.mem_cons_of_mem _ (List.mem_append_right _ (h9))) (by decide +kernel)) rfl rfl rfl (by decide +kernel) ⟨(Nat.le_of_ble_eq_true rfl), (Nat.le_of_ble_eq_true rfl)⟩) ⟨fz_blind, va_recv hKc hPc (ci := 12) (q0 := 0) rfl rfl, fz_pre hPc hKc hDc hAm hS hFc⟩ rfl rfl hl.1 rfl (lv_room (Nat.le_of_ble_eq_true rfl)) dL_readyOn_4 ⟨(Nat.le_of_ble_eq_true rfl), (Nat.le_of_ble_eq_true rfl)⟩) hS (fun q _ h => hFc q h) hFc (fun q _ h => hFc q h) (fun E ce q9 u t H1 locs ht hvm hpx hBX hz1 hk1 hS hce hcv hcl => ?_) (fun r u t H1 locs ht hvm hw hB hz1 hk1 hS => ?_)
  · obtain rfl := hBX
    have hP := fz_keep hP hk1
    generalize H1 = H at hP hS hce ⊢
    have hP : va_P (dC, dI) vwCl [(h0, .inr (12, [.ref hd, .ref hse, .ref hki, .ref hma, .ref hst, .ref hsp, .ref hlp, .ref htl, .int 0, .int 0, .int 0, .int 0, .int 0, .int 0, .int 0, .long ((0 : Int32).toInt64)])), (ao, .inl (cJ, 1, .inr (.inl fo)))] H := hP
    have hD : va_D A [(h0, .inr (12, [.ref hd, .ref hse, .ref hki, .ref hma, .ref hst, .ref hsp, .ref hlp, .ref htl, .int 0, .int 0, .int 0, .int 0, .int 0, .int 0, .int 0, .long ((0 : Int32).toInt64)])), (ao, .inl (cJ, 1, .inr (.inl fo)))] := hD
    refine vx_widen (k := 1) (n := 6) (Nat.le_of_ble_eq_true rfl) (Nat.le_of_ble_eq_true rfl) ?_
    refine vx_catch (own := RL) (name := "java/lang/IndexOutOfBoundsException") hown [] ⟨0, 9, 12, 23⟩ [] htab (fun z hz => nomatch hz) (by decide) (by decide) (hts _ (List.mem_cons_of_mem _ (List.mem_append_left _ (List.mem_of_getElem? (i := 0) rfl)))) (hAm.1.2.1 _ fz_x_IndexOutOfBounds).use hce hcv hcl ?_
    refine W.eq (g2 := F0 m 12 ls [.ref q9]) rfl ?_
    refine lv_astore_n (lv' := [(3, .ref q9), (0, .ref h0), (1, .int p0), (2, .ref ao)]) hx hb dL_readyOn_12 rfl hl (by decide) rfl (fun ls hl => ?_)
    refine lv_iconst (v := 1) hx hb dL_readyOn_13 (by decide) ?_
    have hP9 := hP.sub (ws' := [(ao, .inl (cJ, 1, .inr (.inl fo)))]) [1] rfl
    have hD9 := hD.sub (ws' := [(ao, .inl (cJ, 1, .inr (.inl fo)))]) [1] (by decide) rfl
    have hK9 := hK.sub (tys' := [(cJ, .long)]) [0] rfl
    refine W.widen (k := 1) (n := 6) (Nat.le_of_ble_eq_true rfl) (Nat.le_of_ble_eq_true rfl) ?_
    exact W.iret (v := 1) hx hb hr (fun t ht hW => ⟨⟨1, (fo 0), rfl, rfl, ⟨fo, (by first | rfl | simp [vp_updL]), by rw [ht]; exact hP9, va_K.moved hW.alike hK9, hD9⟩⟩, hS.F ht⟩) hS.2.2 dL_readyOn_14
  · exact hw.elim
def v_c_L_stateOf : List Cond := .codeWith yL_stateOf cL_stateOf 4 (some .int) [(0, 9, 12, 23)] :: ([.classLink RL 23 "java/lang/IndexOutOfBoundsException"] ++ (wsV RL 69 RX7 yX7_stateOf v_c_X7_stateOf))
set_option maxRecDepth 20000 in
theorem i_c_L_stateOf : ∀ w ∈ v_c_L_stateOf, w ∈ lw_tbl := List.forall_mem_cons.mpr ⟨List.mem_of_getElem? (i := 1139) (by decide +kernel), List.forall_mem_append.mpr ⟨List.forall_mem_cons.mpr ⟨List.mem_of_getElem? (i := 577) (by decide +kernel), fun _ h => absurd h List.not_mem_nil⟩, (by unfold wsV; exact List.forall_mem_append.mpr ⟨List.forall_mem_cons.mpr ⟨List.mem_of_getElem? (i := 1140) (by decide +kernel), List.forall_mem_cons.mpr ⟨List.mem_of_getElem? (i := 1141) (by decide +kernel), List.forall_mem_cons.mpr ⟨List.mem_of_getElem? (i := 1142) (by decide +kernel), List.forall_mem_cons.mpr ⟨List.mem_of_getElem? (i := 49) (by decide +kernel), fun _ h => absurd h List.not_mem_nil⟩⟩⟩⟩, i_c_X7_stateOf⟩)⟩⟩
set_option maxHeartbeats 4000000 in
set_option maxRecDepth 100000 in
theorem c_L_stateOf (l : Launch) (dC : Nat → ClassId) (dI : Nat → Nat → Nat) (e0 : Nat) (hlT : l.stackTraces = false) (h0 : Nat) (p0 : Int32) (ao hd hse hki hma hst hsp hlp htl : Nat) (cJ : ClassId) (fo : Nat → Int64) (sz : Nat) : Met l yL_stateOf v_c_L_stateOf ({ frames := 8, cells := 1, slots := 6, locals := 122 }) (fz_P (dC, dI) e0 [(h0, .inr (12, [.ref hd, .ref hse, .ref hki, .ref hma, .ref hst, .ref hsp, .ref hlp, .ref htl, .int 0, .int 0, .int 0, .int 0, .int 0, .int 0, .int 0, .long ((0 : Int32).toInt64)])), (ao, .inl (cJ, 1, .inr (.inl fo)))] [(cJ, .long)] sz (va_A [(h0, .inr (12, [.ref hd, .ref hse, .ref hki, .ref hma, .ref hst, .ref hsp, .ref hlp, .ref htl, .int 0, .int 0, .int 0, .int 0, .int 0, .int 0, .int 0, .long ((0 : Int32).toInt64)])), (ao, .inl (cJ, 1, .inr (.inl fo)))] sz) [.ref h0, .int p0, .ref ao]) (va_Qi (fun (r : Int32) (u : Int64) => r = 1) (fun (u : Int64) (t : State) => ∃ fo2 : Nat → Int64, (fo2 0 = u) ∧ va_P (dC, dI) vwCl [(ao, .inl (cJ, 1, .inr (.inl fo2)))] t.heap ∧ va_K (dC, dI) vwCl [(cJ, .long)] t ∧ va_D (va_A [(h0, .inr (12, [.ref hd, .ref hse, .ref hki, .ref hma, .ref hst, .ref hsp, .ref hlp, .ref htl, .int 0, .int 0, .int 0, .int 0, .int 0, .int 0, .int 0, .long ((0 : Int32).toInt64)])), (ao, .inl (cJ, 1, .inr (.inl fo)))] sz) [(ao, .inl (cJ, 1, .inr (.inl fo2)))]) (va_A [(h0, .inr (12, [.ref hd, .ref hse, .ref hki, .ref hma, .ref hst, .ref hsp, .ref hlp, .ref htl, .int 0, .int 0, .int 0, .int 0, .int 0, .int 0, .int 0, .long ((0 : Int32).toInt64)])), (ao, .inl (cJ, 1, .inr (.inl fo)))] sz)) 1 6 (va_A [(h0, .inr (12, [.ref hd, .ref hse, .ref hki, .ref hma, .ref hst, .ref hsp, .ref hlp, .ref htl, .int 0, .int 0, .int 0, .int 0, .int 0, .int 0, .int 0, .long ((0 : Int32).toInt64)])), (ao, .inl (cJ, 1, .inr (.inl fo)))] sz) := by
  refine va_MetW (cc := cL_stateOf) (maxL := 4) (ret := (some .int)) (by decide) rfl ?_
  intro p e s m args below meth c s₁ B hml hv
  obtain ⟨rfl, hsz, hP, hK, hD0, hAm⟩ := hv
  have hx := B.exec
  have hb := B.bytes
  have hr := B.returns
  have hts := atoms_spec (ws := v_c_L_stateOf) B.pre
  have hown : s.vm.findClass RL = some m.cls := findClass_of_methodNamed B.named
  have hlocks := B.notSynchronized
  have htab := vx_table (x := yL_stateOf) B (hts _ List.mem_cons_self)
  subst hsz
  have hD := hD0.self (sz := s.heap.size)
  generalize hAe : va_A [(h0, .inr (12, [.ref hd, .ref hse, .ref hki, .ref hma, .ref hst, .ref hsp, .ref hlp, .ref htl, .int 0, .int 0, .int 0, .int 0, .int 0, .int 0, .int 0, .long ((0 : Int32).toInt64)])), (ao, .inl (cJ, 1, .inr (.inl fo)))] s.heap.size = A at hD hAm ⊢
  have hA : ∀ q : Nat, s.heap.size ≤ q → A q := fun q h => by rw [← hAe]; exact Or.inr h
  have hS : va_S A s.heap s.heap [] := va_S.rf
  have hP : va_P (dC, dI) vwCl [(h0, .inr (12, [.ref hd, .ref hse, .ref hki, .ref hma, .ref hst, .ref hsp, .ref hlp, .ref htl, .int 0, .int 0, .int 0, .int 0, .int 0, .int 0, .int 0, .long ((0 : Int32).toInt64)])), (ao, .inl (cJ, 1, .inr (.inl fo)))] s.heap := hP
  have hl := lv_entry ([.ref h0, .int p0, .ref ao]) (n := 4) (Nat.le_of_ble_eq_true rfl)
  rw [lg_entry_eq]
  generalize (lg_sl ([.ref h0, .int p0, .ref ao]) ++ List.replicate (4 - (lg_sl ([.ref h0, .int p0, .ref ao])).length) Slot.unset).toArray = ls at hl ⊢
  have hl : lv_has ls 4 [(0, .ref h0), (1, .int p0), (2, .ref ao)] := hl
  refine lv_aload_n hx hb dL_stateOf_0 rfl (lv_at hl 2 rfl) ?_
  refine lv_iconst (v := 0) hx hb dL_stateOf_1 (by decide) ?_
  refine lv_aload_n hx hb dL_stateOf_2 rfl (lv_at hl 0 rfl) ?_
  refine lv_iload_n hx hb dL_stateOf_3 rfl (lv_at hl 1 rfl) ?_
  have hPc := hP.sub (ws' := [(h0, .inr (12, [.ref hd, .ref hse, .ref hki, .ref hma, .ref hst, .ref hsp, .ref hlp, .ref htl, .int 0, .int 0, .int 0, .int 0, .int 0, .int 0, .int 0, .long ((0 : Int32).toInt64)]))]) [0] rfl
  have hDc := hD.sub (ws' := [(h0, .inr (12, [.ref hd, .ref hse, .ref hki, .ref hma, .ref hst, .ref hsp, .ref hlp, .ref htl, .int 0, .int 0, .int 0, .int 0, .int 0, .int 0, .int 0, .long ((0 : Int32).toInt64)]))]) [0] (by decide) rfl
  have hKc := hK.sub (tys' := []) [] rfl
  have hFc : ∀ q : Nat, s.heap.size ≤ q → A q := fun q h => hA q (Nat.le_trans hS.1 h)
  refine vx_calli (vx_runV (As := [.int p0]) (rest := [.int 0, .ref ao]) ⟨hx, hb, hml, hown, hts⟩ (c_X7_stateOf l dC dI e0 hlT h0 p0 hd hse hki hma hst hsp hlp htl s.heap.size) (cwV 1 hts (goodIn_sub (fun _ h9 => List.mem_cons_of_mem _ (List.mem_append_right _ (h9))) (by decide +kernel)) rfl rfl rfl (by decide +kernel) ⟨(Nat.le_of_ble_eq_true rfl), (Nat.le_of_ble_eq_true rfl)⟩) ⟨fz_blind, va_recv hKc hPc (ci := 12) (q0 := 0) rfl rfl, fz_pre hPc hKc hDc hAm hS hFc⟩ rfl rfl hl.1 rfl (lv_room (Nat.le_of_ble_eq_true rfl)) dL_stateOf_4 ⟨(Nat.le_of_ble_eq_true rfl), (Nat.le_of_ble_eq_true rfl)⟩) hS (fun q _ h => hFc q h) hFc (fun q _ h => hFc q h) (fun E ce q9 u t H1 locs ht hvm hpx hBX hz1 hk1 hS hce hcv hcl => ?_) (fun r u t H1 locs ht hvm hw hB hz1 hk1 hS => ?_)
  · obtain rfl := hBX
    have hP := fz_keep hP hk1
    generalize H1 = H at hP hS hce ⊢
    have hP : va_P (dC, dI) vwCl [(h0, .inr (12, [.ref hd, .ref hse, .ref hki, .ref hma, .ref hst, .ref hsp, .ref hlp, .ref htl, .int 0, .int 0, .int 0, .int 0, .int 0, .int 0, .int 0, .long ((0 : Int32).toInt64)])), (ao, .inl (cJ, 1, .inr (.inl fo)))] H := hP
    have hD : va_D A [(h0, .inr (12, [.ref hd, .ref hse, .ref hki, .ref hma, .ref hst, .ref hsp, .ref hlp, .ref htl, .int 0, .int 0, .int 0, .int 0, .int 0, .int 0, .int 0, .long ((0 : Int32).toInt64)])), (ao, .inl (cJ, 1, .inr (.inl fo)))] := hD
    refine vx_widen (k := 1) (n := 6) (Nat.le_of_ble_eq_true rfl) (Nat.le_of_ble_eq_true rfl) ?_
    refine vx_catch (own := RL) (name := "java/lang/IndexOutOfBoundsException") hown [] ⟨0, 9, 12, 23⟩ [] htab (fun z hz => nomatch hz) (by decide) (by decide) (hts _ (List.mem_cons_of_mem _ (List.mem_append_left _ (List.mem_of_getElem? (i := 0) rfl)))) (hAm.1.2.1 _ fz_x_IndexOutOfBounds).use hce hcv hcl ?_
    refine W.eq (g2 := F0 m 12 ls [.ref q9]) rfl ?_
    refine lv_astore_n (lv' := [(3, .ref q9), (0, .ref h0), (1, .int p0), (2, .ref ao)]) hx hb dL_stateOf_12 rfl hl (by decide) rfl (fun ls hl => ?_)
    refine lv_iconst (v := 1) hx hb dL_stateOf_13 (by decide) ?_
    have hP9 := hP.sub (ws' := [(ao, .inl (cJ, 1, .inr (.inl fo)))]) [1] rfl
    have hD9 := hD.sub (ws' := [(ao, .inl (cJ, 1, .inr (.inl fo)))]) [1] (by decide) rfl
    have hK9 := hK.sub (tys' := [(cJ, .long)]) [0] rfl
    refine W.widen (k := 1) (n := 6) (Nat.le_of_ble_eq_true rfl) (Nat.le_of_ble_eq_true rfl) ?_
    exact W.iret (v := 1) hx hb hr (fun t ht hW => ⟨⟨1, (fo 0), rfl, rfl, ⟨fo, (by first | rfl | simp [vp_updL]), by rw [ht]; exact hP9, va_K.moved hW.alike hK9, hD9⟩⟩, hS.F ht⟩) hS.2.2 dL_stateOf_14
  · exact hw.elim
def v_c_L_mark : List Cond := .codeWith yL_mark cL_mark 4 (some .int) [(0, 9, 12, 23)] :: ([.classLink RL 23 "java/lang/IndexOutOfBoundsException"] ++ (wsV RL 73 RX7 yX7_mark v_c_X7_mark))
set_option maxRecDepth 20000 in
theorem i_c_L_mark : ∀ w ∈ v_c_L_mark, w ∈ lw_tbl := List.forall_mem_cons.mpr ⟨List.mem_of_getElem? (i := 1150) (by decide +kernel), List.forall_mem_append.mpr ⟨List.forall_mem_cons.mpr ⟨List.mem_of_getElem? (i := 577) (by decide +kernel), fun _ h => absurd h List.not_mem_nil⟩, (by unfold wsV; exact List.forall_mem_append.mpr ⟨List.forall_mem_cons.mpr ⟨List.mem_of_getElem? (i := 1151) (by decide +kernel), List.forall_mem_cons.mpr ⟨List.mem_of_getElem? (i := 1152) (by decide +kernel), List.forall_mem_cons.mpr ⟨List.mem_of_getElem? (i := 1153) (by decide +kernel), List.forall_mem_cons.mpr ⟨List.mem_of_getElem? (i := 49) (by decide +kernel), fun _ h => absurd h List.not_mem_nil⟩⟩⟩⟩, i_c_X7_mark⟩)⟩⟩
set_option maxHeartbeats 4000000 in
set_option maxRecDepth 100000 in
theorem c_L_mark (l : Launch) (dC : Nat → ClassId) (dI : Nat → Nat → Nat) (e0 : Nat) (hlT : l.stackTraces = false) (h0 : Nat) (p0 : Int32) (ao hd hse hki hma hst hsp hlp htl : Nat) (cJ : ClassId) (fo : Nat → Int64) (sz : Nat) : Met l yL_mark v_c_L_mark ({ frames := 8, cells := 1, slots := 6, locals := 122 }) (fz_P (dC, dI) e0 [(h0, .inr (12, [.ref hd, .ref hse, .ref hki, .ref hma, .ref hst, .ref hsp, .ref hlp, .ref htl, .int 0, .int 0, .int 0, .int 0, .int 0, .int 0, .int 0, .long ((0 : Int32).toInt64)])), (ao, .inl (cJ, 1, .inr (.inl fo)))] [(cJ, .long)] sz (va_A [(h0, .inr (12, [.ref hd, .ref hse, .ref hki, .ref hma, .ref hst, .ref hsp, .ref hlp, .ref htl, .int 0, .int 0, .int 0, .int 0, .int 0, .int 0, .int 0, .long ((0 : Int32).toInt64)])), (ao, .inl (cJ, 1, .inr (.inl fo)))] sz) [.ref h0, .int p0, .ref ao]) (va_Qi (fun (r : Int32) (u : Int64) => r = 1) (fun (u : Int64) (t : State) => ∃ fo2 : Nat → Int64, (fo2 0 = u) ∧ va_P (dC, dI) vwCl [(ao, .inl (cJ, 1, .inr (.inl fo2)))] t.heap ∧ va_K (dC, dI) vwCl [(cJ, .long)] t ∧ va_D (va_A [(h0, .inr (12, [.ref hd, .ref hse, .ref hki, .ref hma, .ref hst, .ref hsp, .ref hlp, .ref htl, .int 0, .int 0, .int 0, .int 0, .int 0, .int 0, .int 0, .long ((0 : Int32).toInt64)])), (ao, .inl (cJ, 1, .inr (.inl fo)))] sz) [(ao, .inl (cJ, 1, .inr (.inl fo2)))]) (va_A [(h0, .inr (12, [.ref hd, .ref hse, .ref hki, .ref hma, .ref hst, .ref hsp, .ref hlp, .ref htl, .int 0, .int 0, .int 0, .int 0, .int 0, .int 0, .int 0, .long ((0 : Int32).toInt64)])), (ao, .inl (cJ, 1, .inr (.inl fo)))] sz)) 1 6 (va_A [(h0, .inr (12, [.ref hd, .ref hse, .ref hki, .ref hma, .ref hst, .ref hsp, .ref hlp, .ref htl, .int 0, .int 0, .int 0, .int 0, .int 0, .int 0, .int 0, .long ((0 : Int32).toInt64)])), (ao, .inl (cJ, 1, .inr (.inl fo)))] sz) := by
  refine va_MetW (cc := cL_mark) (maxL := 4) (ret := (some .int)) (by decide) rfl ?_
  intro p e s m args below meth c s₁ B hml hv
  obtain ⟨rfl, hsz, hP, hK, hD0, hAm⟩ := hv
  have hx := B.exec
  have hb := B.bytes
  have hr := B.returns
  have hts := atoms_spec (ws := v_c_L_mark) B.pre
  have hown : s.vm.findClass RL = some m.cls := findClass_of_methodNamed B.named
  have hlocks := B.notSynchronized
  have htab := vx_table (x := yL_mark) B (hts _ List.mem_cons_self)
  subst hsz
  have hD := hD0.self (sz := s.heap.size)
  generalize hAe : va_A [(h0, .inr (12, [.ref hd, .ref hse, .ref hki, .ref hma, .ref hst, .ref hsp, .ref hlp, .ref htl, .int 0, .int 0, .int 0, .int 0, .int 0, .int 0, .int 0, .long ((0 : Int32).toInt64)])), (ao, .inl (cJ, 1, .inr (.inl fo)))] s.heap.size = A at hD hAm ⊢
  have hA : ∀ q : Nat, s.heap.size ≤ q → A q := fun q h => by rw [← hAe]; exact Or.inr h
  have hS : va_S A s.heap s.heap [] := va_S.rf
  have hP : va_P (dC, dI) vwCl [(h0, .inr (12, [.ref hd, .ref hse, .ref hki, .ref hma, .ref hst, .ref hsp, .ref hlp, .ref htl, .int 0, .int 0, .int 0, .int 0, .int 0, .int 0, .int 0, .long ((0 : Int32).toInt64)])), (ao, .inl (cJ, 1, .inr (.inl fo)))] s.heap := hP
  have hl := lv_entry ([.ref h0, .int p0, .ref ao]) (n := 4) (Nat.le_of_ble_eq_true rfl)
  rw [lg_entry_eq]
  generalize (lg_sl ([.ref h0, .int p0, .ref ao]) ++ List.replicate (4 - (lg_sl ([.ref h0, .int p0, .ref ao])).length) Slot.unset).toArray = ls at hl ⊢
  have hl : lv_has ls 4 [(0, .ref h0), (1, .int p0), (2, .ref ao)] := hl
  refine lv_aload_n hx hb dL_mark_0 rfl (lv_at hl 2 rfl) ?_
  refine lv_iconst (v := 0) hx hb dL_mark_1 (by decide) ?_
  refine lv_aload_n hx hb dL_mark_2 rfl (lv_at hl 0 rfl) ?_
  refine lv_iload_n hx hb dL_mark_3 rfl (lv_at hl 1 rfl) ?_
  have hPc := hP.sub (ws' := [(h0, .inr (12, [.ref hd, .ref hse, .ref hki, .ref hma, .ref hst, .ref hsp, .ref hlp, .ref htl, .int 0, .int 0, .int 0, .int 0, .int 0, .int 0, .int 0, .long ((0 : Int32).toInt64)]))]) [0] rfl
  have hDc := hD.sub (ws' := [(h0, .inr (12, [.ref hd, .ref hse, .ref hki, .ref hma, .ref hst, .ref hsp, .ref hlp, .ref htl, .int 0, .int 0, .int 0, .int 0, .int 0, .int 0, .int 0, .long ((0 : Int32).toInt64)]))]) [0] (by decide) rfl
  have hKc := hK.sub (tys' := []) [] rfl
  have hFc : ∀ q : Nat, s.heap.size ≤ q → A q := fun q h => hA q (Nat.le_trans hS.1 h)
  refine vx_calli (vx_runV (As := [.int p0]) (rest := [.int 0, .ref ao]) ⟨hx, hb, hml, hown, hts⟩ (c_X7_mark l dC dI e0 hlT h0 p0 hd hse hki hma hst hsp hlp htl s.heap.size) (cwV 1 hts (goodIn_sub (fun _ h9 => List.mem_cons_of_mem _ (List.mem_append_right _ (h9))) (by decide +kernel)) rfl rfl rfl (by decide +kernel) ⟨(Nat.le_of_ble_eq_true rfl), (Nat.le_of_ble_eq_true rfl)⟩) ⟨fz_blind, va_recv hKc hPc (ci := 12) (q0 := 0) rfl rfl, fz_pre hPc hKc hDc hAm hS hFc⟩ rfl rfl hl.1 rfl (lv_room (Nat.le_of_ble_eq_true rfl)) dL_mark_4 ⟨(Nat.le_of_ble_eq_true rfl), (Nat.le_of_ble_eq_true rfl)⟩) hS (fun q _ h => hFc q h) hFc (fun q _ h => hFc q h) (fun E ce q9 u t H1 locs ht hvm hpx hBX hz1 hk1 hS hce hcv hcl => ?_) (fun r u t H1 locs ht hvm hw hB hz1 hk1 hS => ?_)
  · obtain rfl := hBX
    have hP := fz_keep hP hk1
    generalize H1 = H at hP hS hce ⊢
    have hP : va_P (dC, dI) vwCl [(h0, .inr (12, [.ref hd, .ref hse, .ref hki, .ref hma, .ref hst, .ref hsp, .ref hlp, .ref htl, .int 0, .int 0, .int 0, .int 0, .int 0, .int 0, .int 0, .long ((0 : Int32).toInt64)])), (ao, .inl (cJ, 1, .inr (.inl fo)))] H := hP
    have hD : va_D A [(h0, .inr (12, [.ref hd, .ref hse, .ref hki, .ref hma, .ref hst, .ref hsp, .ref hlp, .ref htl, .int 0, .int 0, .int 0, .int 0, .int 0, .int 0, .int 0, .long ((0 : Int32).toInt64)])), (ao, .inl (cJ, 1, .inr (.inl fo)))] := hD
    refine vx_widen (k := 1) (n := 6) (Nat.le_of_ble_eq_true rfl) (Nat.le_of_ble_eq_true rfl) ?_
    refine vx_catch (own := RL) (name := "java/lang/IndexOutOfBoundsException") hown [] ⟨0, 9, 12, 23⟩ [] htab (fun z hz => nomatch hz) (by decide) (by decide) (hts _ (List.mem_cons_of_mem _ (List.mem_append_left _ (List.mem_of_getElem? (i := 0) rfl)))) (hAm.1.2.1 _ fz_x_IndexOutOfBounds).use hce hcv hcl ?_
    refine W.eq (g2 := F0 m 12 ls [.ref q9]) rfl ?_
    refine lv_astore_n (lv' := [(3, .ref q9), (0, .ref h0), (1, .int p0), (2, .ref ao)]) hx hb dL_mark_12 rfl hl (by decide) rfl (fun ls hl => ?_)
    refine lv_iconst (v := 1) hx hb dL_mark_13 (by decide) ?_
    have hP9 := hP.sub (ws' := [(ao, .inl (cJ, 1, .inr (.inl fo)))]) [1] rfl
    have hD9 := hD.sub (ws' := [(ao, .inl (cJ, 1, .inr (.inl fo)))]) [1] (by decide) rfl
    have hK9 := hK.sub (tys' := [(cJ, .long)]) [0] rfl
    refine W.widen (k := 1) (n := 6) (Nat.le_of_ble_eq_true rfl) (Nat.le_of_ble_eq_true rfl) ?_
    exact W.iret (v := 1) hx hb hr (fun t ht hW => ⟨⟨1, (fo 0), rfl, rfl, ⟨fo, (by first | rfl | simp [vp_updL]), by rw [ht]; exact hP9, va_K.moved hW.alike hK9, hD9⟩⟩, hS.F ht⟩) hS.2.2 dL_mark_14
  · exact hw.elim
def v_c_L_isSafe : List Cond := .codeWith yL_isSafe cL_isSafe 4 (some .int) [(0, 16, 19, 13), (0, 16, 22, 39)] :: ([.classLink RL 13 "java/lang/IllegalArgumentException", .classLink RL 39 "java/util/NoSuchElementException"] ++ (wsV RL 35 RX7 yX7_isSafe v_c_X7_isSafe))
set_option maxRecDepth 20000 in
theorem i_c_L_isSafe : ∀ w ∈ v_c_L_isSafe, w ∈ lw_tbl := List.forall_mem_cons.mpr ⟨List.mem_of_getElem? (i := 660) (by decide +kernel), List.forall_mem_append.mpr ⟨List.forall_mem_cons.mpr ⟨List.mem_of_getElem? (i := 427) (by decide +kernel), List.forall_mem_cons.mpr ⟨List.mem_of_getElem? (i := 661) (by decide +kernel), fun _ h => absurd h List.not_mem_nil⟩⟩, (by unfold wsV; exact List.forall_mem_append.mpr ⟨List.forall_mem_cons.mpr ⟨List.mem_of_getElem? (i := 662) (by decide +kernel), List.forall_mem_cons.mpr ⟨List.mem_of_getElem? (i := 663) (by decide +kernel), List.forall_mem_cons.mpr ⟨List.mem_of_getElem? (i := 664) (by decide +kernel), List.forall_mem_cons.mpr ⟨List.mem_of_getElem? (i := 49) (by decide +kernel), fun _ h => absurd h List.not_mem_nil⟩⟩⟩⟩, i_c_X7_isSafe⟩)⟩⟩
set_option maxHeartbeats 4000000 in
set_option maxRecDepth 100000 in
theorem c_L_isSafe (l : Launch) (dC : Nat → ClassId) (dI : Nat → Nat → Nat) (e0 : Nat) (hlT : l.stackTraces = false) (h0 : Nat) (p0 : Int32) (ao hd hse hki hma hst hsp hlp htl hj hpr hqd : Nat) (cJ : ClassId) (fo : Nat → Int64) (sz : Nat) : Met l yL_isSafe v_c_L_isSafe ({ frames := 8, cells := 1, slots := 6, locals := 121 }) (fz_P (dC, dI) e0 [(h0, .inr (12, [.ref hd, .ref hse, .ref hki, .ref hma, .ref hst, .ref hsp, .ref hlp, .ref htl, .int 0, .int 0, .int 0, .int 0, .int 0, .int 0, .int 0, .long ((0 : Int32).toInt64)])), (hd, .inr (6, [.ref hj, .ref hpr, .ref hqd, .int 0, .int 0, .int 1])), (ao, .inl (cJ, 1, .inr (.inl fo)))] [(cJ, .long)] sz (va_A [(h0, .inr (12, [.ref hd, .ref hse, .ref hki, .ref hma, .ref hst, .ref hsp, .ref hlp, .ref htl, .int 0, .int 0, .int 0, .int 0, .int 0, .int 0, .int 0, .long ((0 : Int32).toInt64)])), (hd, .inr (6, [.ref hj, .ref hpr, .ref hqd, .int 0, .int 0, .int 1])), (ao, .inl (cJ, 1, .inr (.inl fo)))] sz) [.ref h0, .int p0, .ref ao]) (va_Qi (fun (r : Int32) (u : Int64) => (r = 1 ∧ ¬ fz_in p0 0 10) ∨ (r = 2 ∧ fz_in p0 0 10)) (fun (u : Int64) (t : State) => ∃ fo2 : Nat → Int64, (fo2 0 = u) ∧ va_P (dC, dI) vwCl [(ao, .inl (cJ, 1, .inr (.inl fo2)))] t.heap ∧ va_K (dC, dI) vwCl [(cJ, .long)] t ∧ va_D (va_A [(h0, .inr (12, [.ref hd, .ref hse, .ref hki, .ref hma, .ref hst, .ref hsp, .ref hlp, .ref htl, .int 0, .int 0, .int 0, .int 0, .int 0, .int 0, .int 0, .long ((0 : Int32).toInt64)])), (hd, .inr (6, [.ref hj, .ref hpr, .ref hqd, .int 0, .int 0, .int 1])), (ao, .inl (cJ, 1, .inr (.inl fo)))] sz) [(ao, .inl (cJ, 1, .inr (.inl fo2)))]) (va_A [(h0, .inr (12, [.ref hd, .ref hse, .ref hki, .ref hma, .ref hst, .ref hsp, .ref hlp, .ref htl, .int 0, .int 0, .int 0, .int 0, .int 0, .int 0, .int 0, .long ((0 : Int32).toInt64)])), (hd, .inr (6, [.ref hj, .ref hpr, .ref hqd, .int 0, .int 0, .int 1])), (ao, .inl (cJ, 1, .inr (.inl fo)))] sz)) 1 6 (va_A [(h0, .inr (12, [.ref hd, .ref hse, .ref hki, .ref hma, .ref hst, .ref hsp, .ref hlp, .ref htl, .int 0, .int 0, .int 0, .int 0, .int 0, .int 0, .int 0, .long ((0 : Int32).toInt64)])), (hd, .inr (6, [.ref hj, .ref hpr, .ref hqd, .int 0, .int 0, .int 1])), (ao, .inl (cJ, 1, .inr (.inl fo)))] sz) := by
  refine va_MetW (cc := cL_isSafe) (maxL := 4) (ret := (some .int)) (by decide) rfl ?_
  intro p e s m args below meth c s₁ B hml hv
  obtain ⟨rfl, hsz, hP, hK, hD0, hAm⟩ := hv
  have hx := B.exec
  have hb := B.bytes
  have hr := B.returns
  have hts := atoms_spec (ws := v_c_L_isSafe) B.pre
  have hown : s.vm.findClass RL = some m.cls := findClass_of_methodNamed B.named
  have hlocks := B.notSynchronized
  have htab := vx_table (x := yL_isSafe) B (hts _ List.mem_cons_self)
  subst hsz
  have hD := hD0.self (sz := s.heap.size)
  generalize hAe : va_A [(h0, .inr (12, [.ref hd, .ref hse, .ref hki, .ref hma, .ref hst, .ref hsp, .ref hlp, .ref htl, .int 0, .int 0, .int 0, .int 0, .int 0, .int 0, .int 0, .long ((0 : Int32).toInt64)])), (hd, .inr (6, [.ref hj, .ref hpr, .ref hqd, .int 0, .int 0, .int 1])), (ao, .inl (cJ, 1, .inr (.inl fo)))] s.heap.size = A at hD hAm ⊢
  have hA : ∀ q : Nat, s.heap.size ≤ q → A q := fun q h => by rw [← hAe]; exact Or.inr h
  have hS : va_S A s.heap s.heap [] := va_S.rf
  have hP : va_P (dC, dI) vwCl [(h0, .inr (12, [.ref hd, .ref hse, .ref hki, .ref hma, .ref hst, .ref hsp, .ref hlp, .ref htl, .int 0, .int 0, .int 0, .int 0, .int 0, .int 0, .int 0, .long ((0 : Int32).toInt64)])), (hd, .inr (6, [.ref hj, .ref hpr, .ref hqd, .int 0, .int 0, .int 1])), (ao, .inl (cJ, 1, .inr (.inl fo)))] s.heap := hP
  have hl := lv_entry ([.ref h0, .int p0, .ref ao]) (n := 4) (Nat.le_of_ble_eq_true rfl)
  rw [lg_entry_eq]
  generalize (lg_sl ([.ref h0, .int p0, .ref ao]) ++ List.replicate (4 - (lg_sl ([.ref h0, .int p0, .ref ao])).length) Slot.unset).toArray = ls at hl ⊢
  have hl : lv_has ls 4 [(0, .ref h0), (1, .int p0), (2, .ref ao)] := hl
  refine lv_aload_n hx hb dL_isSafe_0 rfl (lv_at hl 2 rfl) ?_
  refine lv_iconst (v := 0) hx hb dL_isSafe_1 (by decide) ?_
  refine lv_aload_n hx hb dL_isSafe_2 rfl (lv_at hl 0 rfl) ?_
  refine lv_iload_n hx hb dL_isSafe_3 rfl (lv_at hl 1 rfl) ?_
  have hPc := hP.sub (ws' := [(h0, .inr (12, [.ref hd, .ref hse, .ref hki, .ref hma, .ref hst, .ref hsp, .ref hlp, .ref htl, .int 0, .int 0, .int 0, .int 0, .int 0, .int 0, .int 0, .long ((0 : Int32).toInt64)])), (hd, .inr (6, [.ref hj, .ref hpr, .ref hqd, .int 0, .int 0, .int 1]))]) [0, 1] rfl
  have hDc := hD.sub (ws' := [(h0, .inr (12, [.ref hd, .ref hse, .ref hki, .ref hma, .ref hst, .ref hsp, .ref hlp, .ref htl, .int 0, .int 0, .int 0, .int 0, .int 0, .int 0, .int 0, .long ((0 : Int32).toInt64)])), (hd, .inr (6, [.ref hj, .ref hpr, .ref hqd, .int 0, .int 0, .int 1]))]) [0, 1] (by decide) rfl
  have hKc := hK.sub (tys' := []) [] rfl
  have hFc : ∀ q : Nat, s.heap.size ≤ q → A q := fun q h => hA q (Nat.le_trans hS.1 h)
  refine vx_calli (vx_runV (As := [.int p0]) (rest := [.int 0, .ref ao]) ⟨hx, hb, hml, hown, hts⟩ (c_X7_isSafe l dC dI e0 hlT h0 p0 hd hse hki hma hst hsp hlp htl hj hpr hqd s.heap.size) (cwV 1 hts (goodIn_sub (fun _ h9 => List.mem_cons_of_mem _ (List.mem_append_right _ (h9))) (by decide +kernel)) rfl rfl rfl (by decide +kernel) ⟨(Nat.le_of_ble_eq_true rfl), (Nat.le_of_ble_eq_true rfl)⟩) ⟨fz_blind, va_recv hKc hPc (ci := 12) (q0 := 0) rfl rfl, fz_pre hPc hKc hDc hAm hS hFc⟩ rfl rfl hl.1 rfl (lv_room (Nat.le_of_ble_eq_true rfl)) dL_isSafe_4 ⟨(Nat.le_of_ble_eq_true rfl), (Nat.le_of_ble_eq_true rfl)⟩) hS (fun q _ h => hFc q h) hFc (fun q _ h => hFc q h) (fun E ce q9 u t H1 locs ht hvm hpx hBX hz1 hk1 hS hce hcv hcl => ?_) (fun r u t H1 locs ht hvm hw hB hz1 hk1 hS => ?_)
  · rcases hBX with ⟨rfl, hp_1⟩ | ⟨rfl, hp_2⟩
    · have hP := fz_keep hP hk1
      generalize H1 = H at hP hS hce ⊢
      have hP : va_P (dC, dI) vwCl [(h0, .inr (12, [.ref hd, .ref hse, .ref hki, .ref hma, .ref hst, .ref hsp, .ref hlp, .ref htl, .int 0, .int 0, .int 0, .int 0, .int 0, .int 0, .int 0, .long ((0 : Int32).toInt64)])), (hd, .inr (6, [.ref hj, .ref hpr, .ref hqd, .int 0, .int 0, .int 1])), (ao, .inl (cJ, 1, .inr (.inl fo)))] H := hP
      have hD : va_D A [(h0, .inr (12, [.ref hd, .ref hse, .ref hki, .ref hma, .ref hst, .ref hsp, .ref hlp, .ref htl, .int 0, .int 0, .int 0, .int 0, .int 0, .int 0, .int 0, .long ((0 : Int32).toInt64)])), (hd, .inr (6, [.ref hj, .ref hpr, .ref hqd, .int 0, .int 0, .int 1])), (ao, .inl (cJ, 1, .inr (.inl fo)))] := hD
      refine vx_widen (k := 1) (n := 6) (Nat.le_of_ble_eq_true rfl) (Nat.le_of_ble_eq_true rfl) ?_
      refine vx_catch (own := RL) (name := "java/lang/IllegalArgumentException") hown [] ⟨0, 16, 19, 13⟩ [⟨0, 16, 22, 39⟩] htab (fun z hz => nomatch hz) (by decide) (by decide) (hts _ (List.mem_cons_of_mem _ (List.mem_append_left _ (List.mem_of_getElem? (i := 0) rfl)))) (hAm.1.2.1 _ fz_x_IllegalArgument).use hce hcv hcl ?_
      refine W.eq (g2 := F0 m 19 ls [.ref q9]) rfl ?_
      refine lv_astore_n (lv' := [(3, .ref q9), (0, .ref h0), (1, .int p0), (2, .ref ao)]) hx hb dL_isSafe_19 rfl hl (by decide) rfl (fun ls hl => ?_)
      refine lv_iconst (v := 1) hx hb dL_isSafe_20 (by decide) ?_
      have hP9 := hP.sub (ws' := [(ao, .inl (cJ, 1, .inr (.inl fo)))]) [2] rfl
      have hD9 := hD.sub (ws' := [(ao, .inl (cJ, 1, .inr (.inl fo)))]) [2] (by decide) rfl
      have hK9 := hK.sub (tys' := [(cJ, .long)]) [0] rfl
      refine W.widen (k := 1) (n := 6) (Nat.le_of_ble_eq_true rfl) (Nat.le_of_ble_eq_true rfl) ?_
      exact W.iret (v := 1) hx hb hr (fun t ht hW => ⟨⟨1, (fo 0), rfl, Or.inl (⟨rfl, hp_1⟩), ⟨fo, (by first | rfl | simp [vp_updL]), by rw [ht]; exact hP9, va_K.moved hW.alike hK9, hD9⟩⟩, hS.F ht⟩) hS.2.2 dL_isSafe_21
    · have hP := fz_keep hP hk1
      generalize H1 = H at hP hS hce ⊢
      have hP : va_P (dC, dI) vwCl [(h0, .inr (12, [.ref hd, .ref hse, .ref hki, .ref hma, .ref hst, .ref hsp, .ref hlp, .ref htl, .int 0, .int 0, .int 0, .int 0, .int 0, .int 0, .int 0, .long ((0 : Int32).toInt64)])), (hd, .inr (6, [.ref hj, .ref hpr, .ref hqd, .int 0, .int 0, .int 1])), (ao, .inl (cJ, 1, .inr (.inl fo)))] H := hP
      have hD : va_D A [(h0, .inr (12, [.ref hd, .ref hse, .ref hki, .ref hma, .ref hst, .ref hsp, .ref hlp, .ref htl, .int 0, .int 0, .int 0, .int 0, .int 0, .int 0, .int 0, .long ((0 : Int32).toInt64)])), (hd, .inr (6, [.ref hj, .ref hpr, .ref hqd, .int 0, .int 0, .int 1])), (ao, .inl (cJ, 1, .inr (.inl fo)))] := hD
      refine vx_widen (k := 1) (n := 6) (Nat.le_of_ble_eq_true rfl) (Nat.le_of_ble_eq_true rfl) ?_
      refine vx_catch (own := RL) (name := "java/util/NoSuchElementException") hown [⟨0, 16, 19, 13⟩] ⟨0, 16, 22, 39⟩ [] htab (fun z hz => by cases List.mem_singleton.mp hz; exact Or.inr ⟨by decide, "java/lang/IllegalArgumentException", (hts _ (List.mem_cons_of_mem _ (List.mem_append_left _ (List.mem_of_getElem? (i := 0) rfl)))), hAm.1.2.2.1 _ fz_nc_1⟩) (by decide) (by decide) (hts _ (List.mem_cons_of_mem _ (List.mem_append_left _ (List.mem_of_getElem? (i := 1) rfl)))) (hAm.1.2.1 _ fz_x_NoSuchElement).use hce hcv hcl ?_
      refine W.eq (g2 := F0 m 22 ls [.ref q9]) rfl ?_
      refine lv_astore_n (lv' := [(3, .ref q9), (0, .ref h0), (1, .int p0), (2, .ref ao)]) hx hb dL_isSafe_22 rfl hl (by decide) rfl (fun ls hl => ?_)
      refine lv_iconst (v := 2) hx hb dL_isSafe_23 (by decide) ?_
      have hP9 := hP.sub (ws' := [(ao, .inl (cJ, 1, .inr (.inl fo)))]) [2] rfl
      have hD9 := hD.sub (ws' := [(ao, .inl (cJ, 1, .inr (.inl fo)))]) [2] (by decide) rfl
      have hK9 := hK.sub (tys' := [(cJ, .long)]) [0] rfl
      refine W.widen (k := 1) (n := 6) (Nat.le_of_ble_eq_true rfl) (Nat.le_of_ble_eq_true rfl) ?_
      exact W.iret (v := 2) hx hb hr (fun t ht hW => ⟨⟨2, (fo 0), rfl, Or.inr (⟨rfl, hp_2⟩), ⟨fo, (by first | rfl | simp [vp_updL]), by rw [ht]; exact hP9, va_K.moved hW.alike hK9, hD9⟩⟩, hS.F ht⟩) hS.2.2 dL_isSafe_24
  · exact hw.elim
def v_c_L_thrust : List Cond := .codeWith yL_thrust cL_thrust 4 (some .int) [(0, 8, 11, 13), (0, 8, 14, 39)] :: ([.classLink RL 13 "java/lang/IllegalArgumentException", .classLink RL 39 "java/util/NoSuchElementException"] ++ (wsV RL 41 RX7 yX7_thrust v_c_X7_thrust))
set_option maxRecDepth 20000 in
theorem i_c_L_thrust : ∀ w ∈ v_c_L_thrust, w ∈ lw_tbl := List.forall_mem_cons.mpr ⟨List.mem_of_getElem? (i := 688) (by decide +kernel), List.forall_mem_append.mpr ⟨List.forall_mem_cons.mpr ⟨List.mem_of_getElem? (i := 427) (by decide +kernel), List.forall_mem_cons.mpr ⟨List.mem_of_getElem? (i := 661) (by decide +kernel), fun _ h => absurd h List.not_mem_nil⟩⟩, (by unfold wsV; exact List.forall_mem_append.mpr ⟨List.forall_mem_cons.mpr ⟨List.mem_of_getElem? (i := 689) (by decide +kernel), List.forall_mem_cons.mpr ⟨List.mem_of_getElem? (i := 690) (by decide +kernel), List.forall_mem_cons.mpr ⟨List.mem_of_getElem? (i := 691) (by decide +kernel), List.forall_mem_cons.mpr ⟨List.mem_of_getElem? (i := 49) (by decide +kernel), fun _ h => absurd h List.not_mem_nil⟩⟩⟩⟩, i_c_X7_thrust⟩)⟩⟩
set_option maxHeartbeats 4000000 in
set_option maxRecDepth 100000 in
theorem c_L_thrust (l : Launch) (dC : Nat → ClassId) (dI : Nat → Nat → Nat) (e0 : Nat) (hlT : l.stackTraces = false) (h0 : Nat) (p0 : Int32) (ao hd hse hki hma hst hsp hlp htl hj hpr hqd : Nat) (cJ : ClassId) (fo : Nat → Int64) (sz : Nat) : Met l yL_thrust v_c_L_thrust ({ frames := 8, cells := 1, slots := 6, locals := 121 }) (fz_P (dC, dI) e0 [(h0, .inr (12, [.ref hd, .ref hse, .ref hki, .ref hma, .ref hst, .ref hsp, .ref hlp, .ref htl, .int 0, .int 0, .int 0, .int 0, .int 0, .int 0, .int 0, .long ((0 : Int32).toInt64)])), (hd, .inr (6, [.ref hj, .ref hpr, .ref hqd, .int 0, .int 0, .int 1])), (ao, .inl (cJ, 1, .inr (.inl fo)))] [(cJ, .long)] sz (va_A [(h0, .inr (12, [.ref hd, .ref hse, .ref hki, .ref hma, .ref hst, .ref hsp, .ref hlp, .ref htl, .int 0, .int 0, .int 0, .int 0, .int 0, .int 0, .int 0, .long ((0 : Int32).toInt64)])), (hd, .inr (6, [.ref hj, .ref hpr, .ref hqd, .int 0, .int 0, .int 1])), (ao, .inl (cJ, 1, .inr (.inl fo)))] sz) [.ref h0, .int p0, .ref ao]) (va_Qi (fun (r : Int32) (u : Int64) => (r = 1 ∧ ¬ fz_in p0 0 10) ∨ (r = 2 ∧ fz_in p0 0 10)) (fun (u : Int64) (t : State) => ∃ fo2 : Nat → Int64, (fo2 0 = u) ∧ va_P (dC, dI) vwCl [(ao, .inl (cJ, 1, .inr (.inl fo2)))] t.heap ∧ va_K (dC, dI) vwCl [(cJ, .long)] t ∧ va_D (va_A [(h0, .inr (12, [.ref hd, .ref hse, .ref hki, .ref hma, .ref hst, .ref hsp, .ref hlp, .ref htl, .int 0, .int 0, .int 0, .int 0, .int 0, .int 0, .int 0, .long ((0 : Int32).toInt64)])), (hd, .inr (6, [.ref hj, .ref hpr, .ref hqd, .int 0, .int 0, .int 1])), (ao, .inl (cJ, 1, .inr (.inl fo)))] sz) [(ao, .inl (cJ, 1, .inr (.inl fo2)))]) (va_A [(h0, .inr (12, [.ref hd, .ref hse, .ref hki, .ref hma, .ref hst, .ref hsp, .ref hlp, .ref htl, .int 0, .int 0, .int 0, .int 0, .int 0, .int 0, .int 0, .long ((0 : Int32).toInt64)])), (hd, .inr (6, [.ref hj, .ref hpr, .ref hqd, .int 0, .int 0, .int 1])), (ao, .inl (cJ, 1, .inr (.inl fo)))] sz)) 1 6 (va_A [(h0, .inr (12, [.ref hd, .ref hse, .ref hki, .ref hma, .ref hst, .ref hsp, .ref hlp, .ref htl, .int 0, .int 0, .int 0, .int 0, .int 0, .int 0, .int 0, .long ((0 : Int32).toInt64)])), (hd, .inr (6, [.ref hj, .ref hpr, .ref hqd, .int 0, .int 0, .int 1])), (ao, .inl (cJ, 1, .inr (.inl fo)))] sz) := by
  refine va_MetW (cc := cL_thrust) (maxL := 4) (ret := (some .int)) (by decide) rfl ?_
  intro p e s m args below meth c s₁ B hml hv
  obtain ⟨rfl, hsz, hP, hK, hD0, hAm⟩ := hv
  have hx := B.exec
  have hb := B.bytes
  have hr := B.returns
  have hts := atoms_spec (ws := v_c_L_thrust) B.pre
  have hown : s.vm.findClass RL = some m.cls := findClass_of_methodNamed B.named
  have hlocks := B.notSynchronized
  have htab := vx_table (x := yL_thrust) B (hts _ List.mem_cons_self)
  subst hsz
  have hD := hD0.self (sz := s.heap.size)
  generalize hAe : va_A [(h0, .inr (12, [.ref hd, .ref hse, .ref hki, .ref hma, .ref hst, .ref hsp, .ref hlp, .ref htl, .int 0, .int 0, .int 0, .int 0, .int 0, .int 0, .int 0, .long ((0 : Int32).toInt64)])), (hd, .inr (6, [.ref hj, .ref hpr, .ref hqd, .int 0, .int 0, .int 1])), (ao, .inl (cJ, 1, .inr (.inl fo)))] s.heap.size = A at hD hAm ⊢
  have hA : ∀ q : Nat, s.heap.size ≤ q → A q := fun q h => by rw [← hAe]; exact Or.inr h
  have hS : va_S A s.heap s.heap [] := va_S.rf
  have hP : va_P (dC, dI) vwCl [(h0, .inr (12, [.ref hd, .ref hse, .ref hki, .ref hma, .ref hst, .ref hsp, .ref hlp, .ref htl, .int 0, .int 0, .int 0, .int 0, .int 0, .int 0, .int 0, .long ((0 : Int32).toInt64)])), (hd, .inr (6, [.ref hj, .ref hpr, .ref hqd, .int 0, .int 0, .int 1])), (ao, .inl (cJ, 1, .inr (.inl fo)))] s.heap := hP
  have hl := lv_entry ([.ref h0, .int p0, .ref ao]) (n := 4) (Nat.le_of_ble_eq_true rfl)
  rw [lg_entry_eq]
  generalize (lg_sl ([.ref h0, .int p0, .ref ao]) ++ List.replicate (4 - (lg_sl ([.ref h0, .int p0, .ref ao])).length) Slot.unset).toArray = ls at hl ⊢
  have hl : lv_has ls 4 [(0, .ref h0), (1, .int p0), (2, .ref ao)] := hl
  refine lv_aload_n hx hb dL_thrust_0 rfl (lv_at hl 2 rfl) ?_
  refine lv_iconst (v := 0) hx hb dL_thrust_1 (by decide) ?_
  refine lv_aload_n hx hb dL_thrust_2 rfl (lv_at hl 0 rfl) ?_
  refine lv_iload_n hx hb dL_thrust_3 rfl (lv_at hl 1 rfl) ?_
  have hPc := hP.sub (ws' := [(h0, .inr (12, [.ref hd, .ref hse, .ref hki, .ref hma, .ref hst, .ref hsp, .ref hlp, .ref htl, .int 0, .int 0, .int 0, .int 0, .int 0, .int 0, .int 0, .long ((0 : Int32).toInt64)])), (hd, .inr (6, [.ref hj, .ref hpr, .ref hqd, .int 0, .int 0, .int 1]))]) [0, 1] rfl
  have hDc := hD.sub (ws' := [(h0, .inr (12, [.ref hd, .ref hse, .ref hki, .ref hma, .ref hst, .ref hsp, .ref hlp, .ref htl, .int 0, .int 0, .int 0, .int 0, .int 0, .int 0, .int 0, .long ((0 : Int32).toInt64)])), (hd, .inr (6, [.ref hj, .ref hpr, .ref hqd, .int 0, .int 0, .int 1]))]) [0, 1] (by decide) rfl
  have hKc := hK.sub (tys' := []) [] rfl
  have hFc : ∀ q : Nat, s.heap.size ≤ q → A q := fun q h => hA q (Nat.le_trans hS.1 h)
  refine vx_calll (vx_runV (As := [.int p0]) (rest := [.int 0, .ref ao]) ⟨hx, hb, hml, hown, hts⟩ (c_X7_thrust l dC dI e0 hlT h0 p0 hd hse hki hma hst hsp hlp htl hj hpr hqd s.heap.size) (cwV 1 hts (goodIn_sub (fun _ h9 => List.mem_cons_of_mem _ (List.mem_append_right _ (h9))) (by decide +kernel)) rfl rfl rfl (by decide +kernel) ⟨(Nat.le_of_ble_eq_true rfl), (Nat.le_of_ble_eq_true rfl)⟩) ⟨fz_blind, va_recv hKc hPc (ci := 12) (q0 := 0) rfl rfl, fz_pre hPc hKc hDc hAm hS hFc⟩ rfl rfl hl.1 rfl (lv_room (Nat.le_of_ble_eq_true rfl)) dL_thrust_4 ⟨(Nat.le_of_ble_eq_true rfl), (Nat.le_of_ble_eq_true rfl)⟩) hS (fun q _ h => hFc q h) hFc (fun q _ h => hFc q h) (fun E ce q9 u t H1 locs ht hvm hpx hBX hz1 hk1 hS hce hcv hcl => ?_) (fun r u t H1 locs ht hvm hw hB hz1 hk1 hS => ?_)
  · rcases hBX with ⟨rfl, hp_1⟩ | ⟨rfl, hp_2⟩
    · have hP := fz_keep hP hk1
      generalize H1 = H at hP hS hce ⊢
      have hP : va_P (dC, dI) vwCl [(h0, .inr (12, [.ref hd, .ref hse, .ref hki, .ref hma, .ref hst, .ref hsp, .ref hlp, .ref htl, .int 0, .int 0, .int 0, .int 0, .int 0, .int 0, .int 0, .long ((0 : Int32).toInt64)])), (hd, .inr (6, [.ref hj, .ref hpr, .ref hqd, .int 0, .int 0, .int 1])), (ao, .inl (cJ, 1, .inr (.inl fo)))] H := hP
      have hD : va_D A [(h0, .inr (12, [.ref hd, .ref hse, .ref hki, .ref hma, .ref hst, .ref hsp, .ref hlp, .ref htl, .int 0, .int 0, .int 0, .int 0, .int 0, .int 0, .int 0, .long ((0 : Int32).toInt64)])), (hd, .inr (6, [.ref hj, .ref hpr, .ref hqd, .int 0, .int 0, .int 1])), (ao, .inl (cJ, 1, .inr (.inl fo)))] := hD
      refine vx_widen (k := 1) (n := 6) (Nat.le_of_ble_eq_true rfl) (Nat.le_of_ble_eq_true rfl) ?_
      refine vx_catch (own := RL) (name := "java/lang/IllegalArgumentException") hown [] ⟨0, 8, 11, 13⟩ [⟨0, 8, 14, 39⟩] htab (fun z hz => nomatch hz) (by decide) (by decide) (hts _ (List.mem_cons_of_mem _ (List.mem_append_left _ (List.mem_of_getElem? (i := 0) rfl)))) (hAm.1.2.1 _ fz_x_IllegalArgument).use hce hcv hcl ?_
      refine W.eq (g2 := F0 m 11 ls [.ref q9]) rfl ?_
      refine lv_astore_n (lv' := [(3, .ref q9), (0, .ref h0), (1, .int p0), (2, .ref ao)]) hx hb dL_thrust_11 rfl hl (by decide) rfl (fun ls hl => ?_)
      refine lv_iconst (v := 1) hx hb dL_thrust_12 (by decide) ?_
      have hP9 := hP.sub (ws' := [(ao, .inl (cJ, 1, .inr (.inl fo)))]) [2] rfl
      have hD9 := hD.sub (ws' := [(ao, .inl (cJ, 1, .inr (.inl fo)))]) [2] (by decide) rfl
      have hK9 := hK.sub (tys' := [(cJ, .long)]) [0] rfl
      refine W.widen (k := 1) (n := 6) (Nat.le_of_ble_eq_true rfl) (Nat.le_of_ble_eq_true rfl) ?_
      exact W.iret (v := 1) hx hb hr (fun t ht hW => ⟨⟨1, (fo 0), rfl, Or.inl (⟨rfl, hp_1⟩), ⟨fo, (by first | rfl | simp [vp_updL]), by rw [ht]; exact hP9, va_K.moved hW.alike hK9, hD9⟩⟩, hS.F ht⟩) hS.2.2 dL_thrust_13
    · have hP := fz_keep hP hk1
      generalize H1 = H at hP hS hce ⊢
      have hP : va_P (dC, dI) vwCl [(h0, .inr (12, [.ref hd, .ref hse, .ref hki, .ref hma, .ref hst, .ref hsp, .ref hlp, .ref htl, .int 0, .int 0, .int 0, .int 0, .int 0, .int 0, .int 0, .long ((0 : Int32).toInt64)])), (hd, .inr (6, [.ref hj, .ref hpr, .ref hqd, .int 0, .int 0, .int 1])), (ao, .inl (cJ, 1, .inr (.inl fo)))] H := hP
      have hD : va_D A [(h0, .inr (12, [.ref hd, .ref hse, .ref hki, .ref hma, .ref hst, .ref hsp, .ref hlp, .ref htl, .int 0, .int 0, .int 0, .int 0, .int 0, .int 0, .int 0, .long ((0 : Int32).toInt64)])), (hd, .inr (6, [.ref hj, .ref hpr, .ref hqd, .int 0, .int 0, .int 1])), (ao, .inl (cJ, 1, .inr (.inl fo)))] := hD
      refine vx_widen (k := 1) (n := 6) (Nat.le_of_ble_eq_true rfl) (Nat.le_of_ble_eq_true rfl) ?_
      refine vx_catch (own := RL) (name := "java/util/NoSuchElementException") hown [⟨0, 8, 11, 13⟩] ⟨0, 8, 14, 39⟩ [] htab (fun z hz => by cases List.mem_singleton.mp hz; exact Or.inr ⟨by decide, "java/lang/IllegalArgumentException", (hts _ (List.mem_cons_of_mem _ (List.mem_append_left _ (List.mem_of_getElem? (i := 0) rfl)))), hAm.1.2.2.1 _ fz_nc_1⟩) (by decide) (by decide) (hts _ (List.mem_cons_of_mem _ (List.mem_append_left _ (List.mem_of_getElem? (i := 1) rfl)))) (hAm.1.2.1 _ fz_x_NoSuchElement).use hce hcv hcl ?_
      refine W.eq (g2 := F0 m 14 ls [.ref q9]) rfl ?_
      refine lv_astore_n (lv' := [(3, .ref q9), (0, .ref h0), (1, .int p0), (2, .ref ao)]) hx hb dL_thrust_14 rfl hl (by decide) rfl (fun ls hl => ?_)
      refine lv_iconst (v := 2) hx hb dL_thrust_15 (by decide) ?_
      have hP9 := hP.sub (ws' := [(ao, .inl (cJ, 1, .inr (.inl fo)))]) [2] rfl
      have hD9 := hD.sub (ws' := [(ao, .inl (cJ, 1, .inr (.inl fo)))]) [2] (by decide) rfl
      have hK9 := hK.sub (tys' := [(cJ, .long)]) [0] rfl
      refine W.widen (k := 1) (n := 6) (Nat.le_of_ble_eq_true rfl) (Nat.le_of_ble_eq_true rfl) ?_
      exact W.iret (v := 2) hx hb hr (fun t ht hW => ⟨⟨2, (fo 0), rfl, Or.inr (⟨rfl, hp_2⟩), ⟨fo, (by first | rfl | simp [vp_updL]), by rw [ht]; exact hP9, va_K.moved hW.alike hK9, hD9⟩⟩, hS.F ht⟩) hS.2.2 dL_thrust_16
  · exact hw.elim
def v_c_L_bears : List Cond := .codeWith yL_bears cL_bears 5 (some .int) [(0, 10, 13, 23), (0, 10, 17, 13), (0, 10, 21, 39)] :: ([.classLink RL 23 "java/lang/IndexOutOfBoundsException"] ++ (wsV RL 45 RX7 yX7_bears v_c_X7_bears))
set_option maxRecDepth 20000 in
theorem i_c_L_bears : ∀ w ∈ v_c_L_bears, w ∈ lw_tbl := List.forall_mem_cons.mpr ⟨List.mem_of_getElem? (i := 700) (by decide +kernel), List.forall_mem_append.mpr ⟨List.forall_mem_cons.mpr ⟨List.mem_of_getElem? (i := 577) (by decide +kernel), fun _ h => absurd h List.not_mem_nil⟩, (by unfold wsV; exact List.forall_mem_append.mpr ⟨List.forall_mem_cons.mpr ⟨List.mem_of_getElem? (i := 701) (by decide +kernel), List.forall_mem_cons.mpr ⟨List.mem_of_getElem? (i := 702) (by decide +kernel), List.forall_mem_cons.mpr ⟨List.mem_of_getElem? (i := 703) (by decide +kernel), List.forall_mem_cons.mpr ⟨List.mem_of_getElem? (i := 49) (by decide +kernel), fun _ h => absurd h List.not_mem_nil⟩⟩⟩⟩, i_c_X7_bears⟩)⟩⟩
set_option maxHeartbeats 4000000 in
set_option maxRecDepth 100000 in
theorem c_L_bears (l : Launch) (dC : Nat → ClassId) (dI : Nat → Nat → Nat) (e0 : Nat) (hlT : l.stackTraces = false) (h0 : Nat) (p0 p1 : Int32) (ao hd hse hki hma hst hsp hlp htl hj hpr hqd : Nat) (cJ : ClassId) (fo : Nat → Int64) (sz : Nat) : Met l yL_bears v_c_L_bears ({ frames := 8, cells := 1, slots := 6, locals := 124 }) (fz_P (dC, dI) e0 [(h0, .inr (12, [.ref hd, .ref hse, .ref hki, .ref hma, .ref hst, .ref hsp, .ref hlp, .ref htl, .int 0, .int 0, .int 0, .int 0, .int 0, .int 0, .int 0, .long ((0 : Int32).toInt64)])), (hd, .inr (6, [.ref hj, .ref hpr, .ref hqd, .int 0, .int 0, .int 1])), (ao, .inl (cJ, 1, .inr (.inl fo)))] [(cJ, .long)] sz (va_A [(h0, .inr (12, [.ref hd, .ref hse, .ref hki, .ref hma, .ref hst, .ref hsp, .ref hlp, .ref htl, .int 0, .int 0, .int 0, .int 0, .int 0, .int 0, .int 0, .long ((0 : Int32).toInt64)])), (hd, .inr (6, [.ref hj, .ref hpr, .ref hqd, .int 0, .int 0, .int 1])), (ao, .inl (cJ, 1, .inr (.inl fo)))] sz) [.ref h0, .int p0, .int p1, .ref ao]) (va_Qi (fun (r : Int32) (u : Int64) => r = 1) (fun (u : Int64) (t : State) => ∃ fo2 : Nat → Int64, (fo2 0 = u) ∧ va_P (dC, dI) vwCl [(ao, .inl (cJ, 1, .inr (.inl fo2)))] t.heap ∧ va_K (dC, dI) vwCl [(cJ, .long)] t ∧ va_D (va_A [(h0, .inr (12, [.ref hd, .ref hse, .ref hki, .ref hma, .ref hst, .ref hsp, .ref hlp, .ref htl, .int 0, .int 0, .int 0, .int 0, .int 0, .int 0, .int 0, .long ((0 : Int32).toInt64)])), (hd, .inr (6, [.ref hj, .ref hpr, .ref hqd, .int 0, .int 0, .int 1])), (ao, .inl (cJ, 1, .inr (.inl fo)))] sz) [(ao, .inl (cJ, 1, .inr (.inl fo2)))]) (va_A [(h0, .inr (12, [.ref hd, .ref hse, .ref hki, .ref hma, .ref hst, .ref hsp, .ref hlp, .ref htl, .int 0, .int 0, .int 0, .int 0, .int 0, .int 0, .int 0, .long ((0 : Int32).toInt64)])), (hd, .inr (6, [.ref hj, .ref hpr, .ref hqd, .int 0, .int 0, .int 1])), (ao, .inl (cJ, 1, .inr (.inl fo)))] sz)) 1 6 (va_A [(h0, .inr (12, [.ref hd, .ref hse, .ref hki, .ref hma, .ref hst, .ref hsp, .ref hlp, .ref htl, .int 0, .int 0, .int 0, .int 0, .int 0, .int 0, .int 0, .long ((0 : Int32).toInt64)])), (hd, .inr (6, [.ref hj, .ref hpr, .ref hqd, .int 0, .int 0, .int 1])), (ao, .inl (cJ, 1, .inr (.inl fo)))] sz) := by
  refine va_MetW (cc := cL_bears) (maxL := 5) (ret := (some .int)) (by decide) rfl ?_
  intro p e s m args below meth c s₁ B hml hv
  obtain ⟨rfl, hsz, hP, hK, hD0, hAm⟩ := hv
  have hx := B.exec
  have hb := B.bytes
  have hr := B.returns
  have hts := atoms_spec (ws := v_c_L_bears) B.pre
  have hown : s.vm.findClass RL = some m.cls := findClass_of_methodNamed B.named
  have hlocks := B.notSynchronized
  have htab := vx_table (x := yL_bears) B (hts _ List.mem_cons_self)
  subst hsz
  have hD := hD0.self (sz := s.heap.size)
  generalize hAe : va_A [(h0, .inr (12, [.ref hd, .ref hse, .ref hki, .ref hma, .ref hst, .ref hsp, .ref hlp, .ref htl, .int 0, .int 0, .int 0, .int 0, .int 0, .int 0, .int 0, .long ((0 : Int32).toInt64)])), (hd, .inr (6, [.ref hj, .ref hpr, .ref hqd, .int 0, .int 0, .int 1])), (ao, .inl (cJ, 1, .inr (.inl fo)))] s.heap.size = A at hD hAm ⊢
  have hA : ∀ q : Nat, s.heap.size ≤ q → A q := fun q h => by rw [← hAe]; exact Or.inr h
  have hS : va_S A s.heap s.heap [] := va_S.rf
  have hP : va_P (dC, dI) vwCl [(h0, .inr (12, [.ref hd, .ref hse, .ref hki, .ref hma, .ref hst, .ref hsp, .ref hlp, .ref htl, .int 0, .int 0, .int 0, .int 0, .int 0, .int 0, .int 0, .long ((0 : Int32).toInt64)])), (hd, .inr (6, [.ref hj, .ref hpr, .ref hqd, .int 0, .int 0, .int 1])), (ao, .inl (cJ, 1, .inr (.inl fo)))] s.heap := hP
  have hl := lv_entry ([.ref h0, .int p0, .int p1, .ref ao]) (n := 5) (Nat.le_of_ble_eq_true rfl)
  rw [lg_entry_eq]
  generalize (lg_sl ([.ref h0, .int p0, .int p1, .ref ao]) ++ List.replicate (5 - (lg_sl ([.ref h0, .int p0, .int p1, .ref ao])).length) Slot.unset).toArray = ls at hl ⊢
  have hl : lv_has ls 5 [(0, .ref h0), (1, .int p0), (2, .int p1), (3, .ref ao)] := hl
  refine lv_aload_n hx hb dL_bears_0 rfl (lv_at hl 3 rfl) ?_
  refine lv_iconst (v := 0) hx hb dL_bears_1 (by decide) ?_
  refine lv_aload_n hx hb dL_bears_2 rfl (lv_at hl 0 rfl) ?_
  refine lv_iload_n hx hb dL_bears_3 rfl (lv_at hl 1 rfl) ?_
  refine lv_iload_n hx hb dL_bears_4 rfl (lv_at hl 2 rfl) ?_
  have hPc := hP.sub (ws' := [(h0, .inr (12, [.ref hd, .ref hse, .ref hki, .ref hma, .ref hst, .ref hsp, .ref hlp, .ref htl, .int 0, .int 0, .int 0, .int 0, .int 0, .int 0, .int 0, .long ((0 : Int32).toInt64)])), (hd, .inr (6, [.ref hj, .ref hpr, .ref hqd, .int 0, .int 0, .int 1]))]) [0, 1] rfl
  have hDc := hD.sub (ws' := [(h0, .inr (12, [.ref hd, .ref hse, .ref hki, .ref hma, .ref hst, .ref hsp, .ref hlp, .ref htl, .int 0, .int 0, .int 0, .int 0, .int 0, .int 0, .int 0, .long ((0 : Int32).toInt64)])), (hd, .inr (6, [.ref hj, .ref hpr, .ref hqd, .int 0, .int 0, .int 1]))]) [0, 1] (by decide) rfl
  have hKc := hK.sub (tys' := []) [] rfl
  have hFc : ∀ q : Nat, s.heap.size ≤ q → A q := fun q h => hA q (Nat.le_trans hS.1 h)
  refine vx_calli (vx_runV (As := [.int p0, .int p1]) (rest := [.int 0, .ref ao]) ⟨hx, hb, hml, hown, hts⟩ (c_X7_bears l dC dI e0 hlT h0 p0 p1 hd hse hki hma hst hsp hlp htl hj hpr hqd s.heap.size) (cwV 2 hts (goodIn_sub (fun _ h9 => List.mem_cons_of_mem _ (List.mem_append_right _ (h9))) (by decide +kernel)) rfl rfl rfl (by decide +kernel) ⟨(Nat.le_of_ble_eq_true rfl), (Nat.le_of_ble_eq_true rfl)⟩) ⟨fz_blind, va_recv hKc hPc (ci := 12) (q0 := 0) rfl rfl, fz_pre hPc hKc hDc hAm hS hFc⟩ rfl rfl hl.1 rfl (lv_room (Nat.le_of_ble_eq_true rfl)) dL_bears_5 ⟨(Nat.le_of_ble_eq_true rfl), (Nat.le_of_ble_eq_true rfl)⟩) hS (fun q _ h => hFc q h) hFc (fun q _ h => hFc q h) (fun E ce q9 u t H1 locs ht hvm hpx hBX hz1 hk1 hS hce hcv hcl => ?_) (fun r u t H1 locs ht hvm hw hB hz1 hk1 hS => ?_)
  · obtain rfl := hBX
    have hP := fz_keep hP hk1
    generalize H1 = H at hP hS hce ⊢
    have hP : va_P (dC, dI) vwCl [(h0, .inr (12, [.ref hd, .ref hse, .ref hki, .ref hma, .ref hst, .ref hsp, .ref hlp, .ref htl, .int 0, .int 0, .int 0, .int 0, .int 0, .int 0, .int 0, .long ((0 : Int32).toInt64)])), (hd, .inr (6, [.ref hj, .ref hpr, .ref hqd, .int 0, .int 0, .int 1])), (ao, .inl (cJ, 1, .inr (.inl fo)))] H := hP
    have hD : va_D A [(h0, .inr (12, [.ref hd, .ref hse, .ref hki, .ref hma, .ref hst, .ref hsp, .ref hlp, .ref htl, .int 0, .int 0, .int 0, .int 0, .int 0, .int 0, .int 0, .long ((0 : Int32).toInt64)])), (hd, .inr (6, [.ref hj, .ref hpr, .ref hqd, .int 0, .int 0, .int 1])), (ao, .inl (cJ, 1, .inr (.inl fo)))] := hD
    refine vx_widen (k := 1) (n := 6) (Nat.le_of_ble_eq_true rfl) (Nat.le_of_ble_eq_true rfl) ?_
    refine vx_catch (own := RL) (name := "java/lang/IndexOutOfBoundsException") hown [] ⟨0, 10, 13, 23⟩ [⟨0, 10, 17, 13⟩, ⟨0, 10, 21, 39⟩] htab (fun z hz => nomatch hz) (by decide) (by decide) (hts _ (List.mem_cons_of_mem _ (List.mem_append_left _ (List.mem_of_getElem? (i := 0) rfl)))) (hAm.1.2.1 _ fz_x_IndexOutOfBounds).use hce hcv hcl ?_
    refine W.eq (g2 := F0 m 13 ls [.ref q9]) rfl ?_
    refine lv_astore (lv' := [(4, .ref q9), (0, .ref h0), (1, .int p0), (2, .int p1), (3, .ref ao)]) hx hb dL_bears_13 hl (by decide) rfl (fun ls hl => ?_)
    refine lv_iconst (v := 1) hx hb dL_bears_15 (by decide) ?_
    have hP9 := hP.sub (ws' := [(ao, .inl (cJ, 1, .inr (.inl fo)))]) [2] rfl
    have hD9 := hD.sub (ws' := [(ao, .inl (cJ, 1, .inr (.inl fo)))]) [2] (by decide) rfl
    have hK9 := hK.sub (tys' := [(cJ, .long)]) [0] rfl
    refine W.widen (k := 1) (n := 6) (Nat.le_of_ble_eq_true rfl) (Nat.le_of_ble_eq_true rfl) ?_
    exact W.iret (v := 1) hx hb hr (fun t ht hW => ⟨⟨1, (fo 0), rfl, rfl, ⟨fo, (by first | rfl | simp [vp_updL]), by rw [ht]; exact hP9, va_K.moved hW.alike hK9, hD9⟩⟩, hS.F ht⟩) hS.2.2 dL_bears_16
  · exact hw.elim
def v_c_L_fits : List Cond := .codeWith yL_fits cL_fits 5 (some .int) [(0, 17, 20, 23)] :: ([.classLink RL 23 "java/lang/IndexOutOfBoundsException"] ++ (wsV RL 80 RX7 yX7_fits v_c_X7_fits))
set_option maxRecDepth 20000 in
theorem i_c_L_fits : ∀ w ∈ v_c_L_fits, w ∈ lw_tbl := List.forall_mem_cons.mpr ⟨List.mem_of_getElem? (i := 1181) (by decide +kernel), List.forall_mem_append.mpr ⟨List.forall_mem_cons.mpr ⟨List.mem_of_getElem? (i := 577) (by decide +kernel), fun _ h => absurd h List.not_mem_nil⟩, (by unfold wsV; exact List.forall_mem_append.mpr ⟨List.forall_mem_cons.mpr ⟨List.mem_of_getElem? (i := 1182) (by decide +kernel), List.forall_mem_cons.mpr ⟨List.mem_of_getElem? (i := 1183) (by decide +kernel), List.forall_mem_cons.mpr ⟨List.mem_of_getElem? (i := 1184) (by decide +kernel), List.forall_mem_cons.mpr ⟨List.mem_of_getElem? (i := 49) (by decide +kernel), fun _ h => absurd h List.not_mem_nil⟩⟩⟩⟩, i_c_X7_fits⟩)⟩⟩
set_option maxHeartbeats 4000000 in
set_option maxRecDepth 100000 in
theorem c_L_fits (l : Launch) (dC : Nat → ClassId) (dI : Nat → Nat → Nat) (e0 : Nat) (hlT : l.stackTraces = false) (h0 : Nat) (p0 p1 : Int32) (ao hd hse hki hma hst hsp hlp htl hj hpr hqd : Nat) (cJ : ClassId) (fo : Nat → Int64) (sz : Nat) : Met l yL_fits v_c_L_fits ({ frames := 8, cells := 1, slots := 6, locals := 124 }) (fz_P (dC, dI) e0 [(h0, .inr (12, [.ref hd, .ref hse, .ref hki, .ref hma, .ref hst, .ref hsp, .ref hlp, .ref htl, .int 0, .int 0, .int 0, .int 0, .int 0, .int 0, .int 0, .long ((0 : Int32).toInt64)])), (hd, .inr (6, [.ref hj, .ref hpr, .ref hqd, .int 0, .int 0, .int 1])), (ao, .inl (cJ, 1, .inr (.inl fo)))] [(cJ, .long)] sz (va_A [(h0, .inr (12, [.ref hd, .ref hse, .ref hki, .ref hma, .ref hst, .ref hsp, .ref hlp, .ref htl, .int 0, .int 0, .int 0, .int 0, .int 0, .int 0, .int 0, .long ((0 : Int32).toInt64)])), (hd, .inr (6, [.ref hj, .ref hpr, .ref hqd, .int 0, .int 0, .int 1])), (ao, .inl (cJ, 1, .inr (.inl fo)))] sz) [.ref h0, .int p0, .int p1, .ref ao]) (va_Qi (fun (r : Int32) (u : Int64) => r = 1) (fun (u : Int64) (t : State) => ∃ fo2 : Nat → Int64, (fo2 0 = u) ∧ va_P (dC, dI) vwCl [(ao, .inl (cJ, 1, .inr (.inl fo2)))] t.heap ∧ va_K (dC, dI) vwCl [(cJ, .long)] t ∧ va_D (va_A [(h0, .inr (12, [.ref hd, .ref hse, .ref hki, .ref hma, .ref hst, .ref hsp, .ref hlp, .ref htl, .int 0, .int 0, .int 0, .int 0, .int 0, .int 0, .int 0, .long ((0 : Int32).toInt64)])), (hd, .inr (6, [.ref hj, .ref hpr, .ref hqd, .int 0, .int 0, .int 1])), (ao, .inl (cJ, 1, .inr (.inl fo)))] sz) [(ao, .inl (cJ, 1, .inr (.inl fo2)))]) (va_A [(h0, .inr (12, [.ref hd, .ref hse, .ref hki, .ref hma, .ref hst, .ref hsp, .ref hlp, .ref htl, .int 0, .int 0, .int 0, .int 0, .int 0, .int 0, .int 0, .long ((0 : Int32).toInt64)])), (hd, .inr (6, [.ref hj, .ref hpr, .ref hqd, .int 0, .int 0, .int 1])), (ao, .inl (cJ, 1, .inr (.inl fo)))] sz)) 1 6 (va_A [(h0, .inr (12, [.ref hd, .ref hse, .ref hki, .ref hma, .ref hst, .ref hsp, .ref hlp, .ref htl, .int 0, .int 0, .int 0, .int 0, .int 0, .int 0, .int 0, .long ((0 : Int32).toInt64)])), (hd, .inr (6, [.ref hj, .ref hpr, .ref hqd, .int 0, .int 0, .int 1])), (ao, .inl (cJ, 1, .inr (.inl fo)))] sz) := by
  refine va_MetW (cc := cL_fits) (maxL := 5) (ret := (some .int)) (by decide) rfl ?_
  intro p e s m args below meth c s₁ B hml hv
  obtain ⟨rfl, hsz, hP, hK, hD0, hAm⟩ := hv
  have hx := B.exec
  have hb := B.bytes
  have hr := B.returns
  have hts := atoms_spec (ws := v_c_L_fits) B.pre
  have hown : s.vm.findClass RL = some m.cls := findClass_of_methodNamed B.named
  have hlocks := B.notSynchronized
  have htab := vx_table (x := yL_fits) B (hts _ List.mem_cons_self)
  subst hsz
  have hD := hD0.self (sz := s.heap.size)
  generalize hAe : va_A [(h0, .inr (12, [.ref hd, .ref hse, .ref hki, .ref hma, .ref hst, .ref hsp, .ref hlp, .ref htl, .int 0, .int 0, .int 0, .int 0, .int 0, .int 0, .int 0, .long ((0 : Int32).toInt64)])), (hd, .inr (6, [.ref hj, .ref hpr, .ref hqd, .int 0, .int 0, .int 1])), (ao, .inl (cJ, 1, .inr (.inl fo)))] s.heap.size = A at hD hAm ⊢
  have hA : ∀ q : Nat, s.heap.size ≤ q → A q := fun q h => by rw [← hAe]; exact Or.inr h
  have hS : va_S A s.heap s.heap [] := va_S.rf
  have hP : va_P (dC, dI) vwCl [(h0, .inr (12, [.ref hd, .ref hse, .ref hki, .ref hma, .ref hst, .ref hsp, .ref hlp, .ref htl, .int 0, .int 0, .int 0, .int 0, .int 0, .int 0, .int 0, .long ((0 : Int32).toInt64)])), (hd, .inr (6, [.ref hj, .ref hpr, .ref hqd, .int 0, .int 0, .int 1])), (ao, .inl (cJ, 1, .inr (.inl fo)))] s.heap := hP
  have hl := lv_entry ([.ref h0, .int p0, .int p1, .ref ao]) (n := 5) (Nat.le_of_ble_eq_true rfl)
  rw [lg_entry_eq]
  generalize (lg_sl ([.ref h0, .int p0, .int p1, .ref ao]) ++ List.replicate (5 - (lg_sl ([.ref h0, .int p0, .int p1, .ref ao])).length) Slot.unset).toArray = ls at hl ⊢
  have hl : lv_has ls 5 [(0, .ref h0), (1, .int p0), (2, .int p1), (3, .ref ao)] := hl
  refine lv_aload_n hx hb dL_fits_0 rfl (lv_at hl 3 rfl) ?_
  refine lv_iconst (v := 0) hx hb dL_fits_1 (by decide) ?_
  refine lv_aload_n hx hb dL_fits_2 rfl (lv_at hl 0 rfl) ?_
  refine lv_iload_n hx hb dL_fits_3 rfl (lv_at hl 1 rfl) ?_
  refine lv_iload_n hx hb dL_fits_4 rfl (lv_at hl 2 rfl) ?_
  have hPc := hP.sub (ws' := [(h0, .inr (12, [.ref hd, .ref hse, .ref hki, .ref hma, .ref hst, .ref hsp, .ref hlp, .ref htl, .int 0, .int 0, .int 0, .int 0, .int 0, .int 0, .int 0, .long ((0 : Int32).toInt64)])), (hd, .inr (6, [.ref hj, .ref hpr, .ref hqd, .int 0, .int 0, .int 1]))]) [0, 1] rfl
  have hDc := hD.sub (ws' := [(h0, .inr (12, [.ref hd, .ref hse, .ref hki, .ref hma, .ref hst, .ref hsp, .ref hlp, .ref htl, .int 0, .int 0, .int 0, .int 0, .int 0, .int 0, .int 0, .long ((0 : Int32).toInt64)])), (hd, .inr (6, [.ref hj, .ref hpr, .ref hqd, .int 0, .int 0, .int 1]))]) [0, 1] (by decide) rfl
  have hKc := hK.sub (tys' := []) [] rfl
  have hFc : ∀ q : Nat, s.heap.size ≤ q → A q := fun q h => hA q (Nat.le_trans hS.1 h)
  refine vx_calli (vx_runV (As := [.int p0, .int p1]) (rest := [.int 0, .ref ao]) ⟨hx, hb, hml, hown, hts⟩ (c_X7_fits l dC dI e0 hlT h0 p0 p1 hd hse hki hma hst hsp hlp htl hj hpr hqd s.heap.size) (cwV 2 hts (goodIn_sub (fun _ h9 => List.mem_cons_of_mem _ (List.mem_append_right _ (h9))) (by decide +kernel)) rfl rfl rfl (by decide +kernel) ⟨(Nat.le_of_ble_eq_true rfl), (Nat.le_of_ble_eq_true rfl)⟩) ⟨fz_blind, va_recv hKc hPc (ci := 12) (q0 := 0) rfl rfl, fz_pre hPc hKc hDc hAm hS hFc⟩ rfl rfl hl.1 rfl (lv_room (Nat.le_of_ble_eq_true rfl)) dL_fits_5 ⟨(Nat.le_of_ble_eq_true rfl), (Nat.le_of_ble_eq_true rfl)⟩) hS (fun q _ h => hFc q h) hFc (fun q _ h => hFc q h) (fun E ce q9 u t H1 locs ht hvm hpx hBX hz1 hk1 hS hce hcv hcl => ?_) (fun r u t H1 locs ht hvm hw hB hz1 hk1 hS => ?_)
  · obtain rfl := hBX
    have hP := fz_keep hP hk1
    generalize H1 = H at hP hS hce ⊢
    have hP : va_P (dC, dI) vwCl [(h0, .inr (12, [.ref hd, .ref hse, .ref hki, .ref hma, .ref hst, .ref hsp, .ref hlp, .ref htl, .int 0, .int 0, .int 0, .int 0, .int 0, .int 0, .int 0, .long ((0 : Int32).toInt64)])), (hd, .inr (6, [.ref hj, .ref hpr, .ref hqd, .int 0, .int 0, .int 1])), (ao, .inl (cJ, 1, .inr (.inl fo)))] H := hP
    have hD : va_D A [(h0, .inr (12, [.ref hd, .ref hse, .ref hki, .ref hma, .ref hst, .ref hsp, .ref hlp, .ref htl, .int 0, .int 0, .int 0, .int 0, .int 0, .int 0, .int 0, .long ((0 : Int32).toInt64)])), (hd, .inr (6, [.ref hj, .ref hpr, .ref hqd, .int 0, .int 0, .int 1])), (ao, .inl (cJ, 1, .inr (.inl fo)))] := hD
    refine vx_widen (k := 1) (n := 6) (Nat.le_of_ble_eq_true rfl) (Nat.le_of_ble_eq_true rfl) ?_
    refine vx_catch (own := RL) (name := "java/lang/IndexOutOfBoundsException") hown [] ⟨0, 17, 20, 23⟩ [] htab (fun z hz => nomatch hz) (by decide) (by decide) (hts _ (List.mem_cons_of_mem _ (List.mem_append_left _ (List.mem_of_getElem? (i := 0) rfl)))) (hAm.1.2.1 _ fz_x_IndexOutOfBounds).use hce hcv hcl ?_
    refine W.eq (g2 := F0 m 20 ls [.ref q9]) rfl ?_
    refine lv_astore (lv' := [(4, .ref q9), (0, .ref h0), (1, .int p0), (2, .int p1), (3, .ref ao)]) hx hb dL_fits_20 hl (by decide) rfl (fun ls hl => ?_)
    refine lv_iconst (v := 1) hx hb dL_fits_22 (by decide) ?_
    have hP9 := hP.sub (ws' := [(ao, .inl (cJ, 1, .inr (.inl fo)))]) [2] rfl
    have hD9 := hD.sub (ws' := [(ao, .inl (cJ, 1, .inr (.inl fo)))]) [2] (by decide) rfl
    have hK9 := hK.sub (tys' := [(cJ, .long)]) [0] rfl
    refine W.widen (k := 1) (n := 6) (Nat.le_of_ble_eq_true rfl) (Nat.le_of_ble_eq_true rfl) ?_
    exact W.iret (v := 1) hx hb hr (fun t ht hW => ⟨⟨1, (fo 0), rfl, rfl, ⟨fo, (by first | rfl | simp [vp_updL]), by rw [ht]; exact hP9, va_K.moved hW.alike hK9, hD9⟩⟩, hS.F ht⟩) hS.2.2 dL_fits_23
  · exact hw.elim
def v_c_L_set : List Cond := .codeWith yL_set cL_set 5 (some .int) [(0, 10, 13, 23), (0, 10, 17, 13), (0, 10, 21, 15)] :: ([.classLink RL 23 "java/lang/IndexOutOfBoundsException"] ++ (wsV RL 87 RX7 yX7_set v_c_X7_set))
set_option maxRecDepth 20000 in
theorem i_c_L_set : ∀ w ∈ v_c_L_set, w ∈ lw_tbl := List.forall_mem_cons.mpr ⟨List.mem_of_getElem? (i := 1204) (by decide +kernel), List.forall_mem_append.mpr ⟨List.forall_mem_cons.mpr ⟨List.mem_of_getElem? (i := 577) (by decide +kernel), fun _ h => absurd h List.not_mem_nil⟩, (by unfold wsV; exact List.forall_mem_append.mpr ⟨List.forall_mem_cons.mpr ⟨List.mem_of_getElem? (i := 1205) (by decide +kernel), List.forall_mem_cons.mpr ⟨List.mem_of_getElem? (i := 1206) (by decide +kernel), List.forall_mem_cons.mpr ⟨List.mem_of_getElem? (i := 1207) (by decide +kernel), List.forall_mem_cons.mpr ⟨List.mem_of_getElem? (i := 49) (by decide +kernel), fun _ h => absurd h List.not_mem_nil⟩⟩⟩⟩, i_c_X7_set⟩)⟩⟩
set_option maxHeartbeats 4000000 in
set_option maxRecDepth 100000 in
theorem c_L_set (l : Launch) (dC : Nat → ClassId) (dI : Nat → Nat → Nat) (e0 : Nat) (hlT : l.stackTraces = false) (h0 : Nat) (p0 p1 : Int32) (ao hd hse hki hma hst hsp hlp htl hj hpr hqd : Nat) (cJ : ClassId) (fo : Nat → Int64) (sz : Nat) : Met l yL_set v_c_L_set ({ frames := 8, cells := 1, slots := 6, locals := 124 }) (fz_P (dC, dI) e0 [(h0, .inr (12, [.ref hd, .ref hse, .ref hki, .ref hma, .ref hst, .ref hsp, .ref hlp, .ref htl, .int 0, .int 0, .int 0, .int 0, .int 0, .int 0, .int 0, .long ((0 : Int32).toInt64)])), (hd, .inr (6, [.ref hj, .ref hpr, .ref hqd, .int 0, .int 0, .int 1])), (ao, .inl (cJ, 1, .inr (.inl fo)))] [(cJ, .long)] sz (va_A [(h0, .inr (12, [.ref hd, .ref hse, .ref hki, .ref hma, .ref hst, .ref hsp, .ref hlp, .ref htl, .int 0, .int 0, .int 0, .int 0, .int 0, .int 0, .int 0, .long ((0 : Int32).toInt64)])), (hd, .inr (6, [.ref hj, .ref hpr, .ref hqd, .int 0, .int 0, .int 1])), (ao, .inl (cJ, 1, .inr (.inl fo)))] sz) [.ref h0, .int p0, .int p1, .ref ao]) (va_Qi (fun (r : Int32) (u : Int64) => r = 1) (fun (u : Int64) (t : State) => ∃ fo2 : Nat → Int64, (fo2 0 = u) ∧ va_P (dC, dI) vwCl [(ao, .inl (cJ, 1, .inr (.inl fo2)))] t.heap ∧ va_K (dC, dI) vwCl [(cJ, .long)] t ∧ va_D (va_A [(h0, .inr (12, [.ref hd, .ref hse, .ref hki, .ref hma, .ref hst, .ref hsp, .ref hlp, .ref htl, .int 0, .int 0, .int 0, .int 0, .int 0, .int 0, .int 0, .long ((0 : Int32).toInt64)])), (hd, .inr (6, [.ref hj, .ref hpr, .ref hqd, .int 0, .int 0, .int 1])), (ao, .inl (cJ, 1, .inr (.inl fo)))] sz) [(ao, .inl (cJ, 1, .inr (.inl fo2)))]) (va_A [(h0, .inr (12, [.ref hd, .ref hse, .ref hki, .ref hma, .ref hst, .ref hsp, .ref hlp, .ref htl, .int 0, .int 0, .int 0, .int 0, .int 0, .int 0, .int 0, .long ((0 : Int32).toInt64)])), (hd, .inr (6, [.ref hj, .ref hpr, .ref hqd, .int 0, .int 0, .int 1])), (ao, .inl (cJ, 1, .inr (.inl fo)))] sz)) 1 6 (va_A [(h0, .inr (12, [.ref hd, .ref hse, .ref hki, .ref hma, .ref hst, .ref hsp, .ref hlp, .ref htl, .int 0, .int 0, .int 0, .int 0, .int 0, .int 0, .int 0, .long ((0 : Int32).toInt64)])), (hd, .inr (6, [.ref hj, .ref hpr, .ref hqd, .int 0, .int 0, .int 1])), (ao, .inl (cJ, 1, .inr (.inl fo)))] sz) := by
  refine va_MetW (cc := cL_set) (maxL := 5) (ret := (some .int)) (by decide) rfl ?_
  intro p e s m args below meth c s₁ B hml hv
  obtain ⟨rfl, hsz, hP, hK, hD0, hAm⟩ := hv
  have hx := B.exec
  have hb := B.bytes
  have hr := B.returns
  have hts := atoms_spec (ws := v_c_L_set) B.pre
  have hown : s.vm.findClass RL = some m.cls := findClass_of_methodNamed B.named
  have hlocks := B.notSynchronized
  have htab := vx_table (x := yL_set) B (hts _ List.mem_cons_self)
  subst hsz
  have hD := hD0.self (sz := s.heap.size)
  generalize hAe : va_A [(h0, .inr (12, [.ref hd, .ref hse, .ref hki, .ref hma, .ref hst, .ref hsp, .ref hlp, .ref htl, .int 0, .int 0, .int 0, .int 0, .int 0, .int 0, .int 0, .long ((0 : Int32).toInt64)])), (hd, .inr (6, [.ref hj, .ref hpr, .ref hqd, .int 0, .int 0, .int 1])), (ao, .inl (cJ, 1, .inr (.inl fo)))] s.heap.size = A at hD hAm ⊢
  have hA : ∀ q : Nat, s.heap.size ≤ q → A q := fun q h => by rw [← hAe]; exact Or.inr h
  have hS : va_S A s.heap s.heap [] := va_S.rf
  have hP : va_P (dC, dI) vwCl [(h0, .inr (12, [.ref hd, .ref hse, .ref hki, .ref hma, .ref hst, .ref hsp, .ref hlp, .ref htl, .int 0, .int 0, .int 0, .int 0, .int 0, .int 0, .int 0, .long ((0 : Int32).toInt64)])), (hd, .inr (6, [.ref hj, .ref hpr, .ref hqd, .int 0, .int 0, .int 1])), (ao, .inl (cJ, 1, .inr (.inl fo)))] s.heap := hP
  have hl := lv_entry ([.ref h0, .int p0, .int p1, .ref ao]) (n := 5) (Nat.le_of_ble_eq_true rfl)
  rw [lg_entry_eq]
  generalize (lg_sl ([.ref h0, .int p0, .int p1, .ref ao]) ++ List.replicate (5 - (lg_sl ([.ref h0, .int p0, .int p1, .ref ao])).length) Slot.unset).toArray = ls at hl ⊢
  have hl : lv_has ls 5 [(0, .ref h0), (1, .int p0), (2, .int p1), (3, .ref ao)] := hl
  refine lv_aload_n hx hb dL_set_0 rfl (lv_at hl 3 rfl) ?_
  refine lv_iconst (v := 0) hx hb dL_set_1 (by decide) ?_
  refine lv_aload_n hx hb dL_set_2 rfl (lv_at hl 0 rfl) ?_
  refine lv_iload_n hx hb dL_set_3 rfl (lv_at hl 1 rfl) ?_
  refine lv_iload_n hx hb dL_set_4 rfl (lv_at hl 2 rfl) ?_
  have hPc := hP.sub (ws' := [(h0, .inr (12, [.ref hd, .ref hse, .ref hki, .ref hma, .ref hst, .ref hsp, .ref hlp, .ref htl, .int 0, .int 0, .int 0, .int 0, .int 0, .int 0, .int 0, .long ((0 : Int32).toInt64)])), (hd, .inr (6, [.ref hj, .ref hpr, .ref hqd, .int 0, .int 0, .int 1]))]) [0, 1] rfl
  have hDc := hD.sub (ws' := [(h0, .inr (12, [.ref hd, .ref hse, .ref hki, .ref hma, .ref hst, .ref hsp, .ref hlp, .ref htl, .int 0, .int 0, .int 0, .int 0, .int 0, .int 0, .int 0, .long ((0 : Int32).toInt64)])), (hd, .inr (6, [.ref hj, .ref hpr, .ref hqd, .int 0, .int 0, .int 1]))]) [0, 1] (by decide) rfl
  have hKc := hK.sub (tys' := []) [] rfl
  have hFc : ∀ q : Nat, s.heap.size ≤ q → A q := fun q h => hA q (Nat.le_trans hS.1 h)
  refine vx_calli (vx_runV (As := [.int p0, .int p1]) (rest := [.int 0, .ref ao]) ⟨hx, hb, hml, hown, hts⟩ (c_X7_set l dC dI e0 hlT h0 p0 p1 hd hse hki hma hst hsp hlp htl hj hpr hqd s.heap.size) (cwV 2 hts (goodIn_sub (fun _ h9 => List.mem_cons_of_mem _ (List.mem_append_right _ (h9))) (by decide +kernel)) rfl rfl rfl (by decide +kernel) ⟨(Nat.le_of_ble_eq_true rfl), (Nat.le_of_ble_eq_true rfl)⟩) ⟨fz_blind, va_recv hKc hPc (ci := 12) (q0 := 0) rfl rfl, fz_pre hPc hKc hDc hAm hS hFc⟩ rfl rfl hl.1 rfl (lv_room (Nat.le_of_ble_eq_true rfl)) dL_set_5 ⟨(Nat.le_of_ble_eq_true rfl), (Nat.le_of_ble_eq_true rfl)⟩) hS (fun q _ h => hFc q h) hFc (fun q _ h => hFc q h) (fun E ce q9 u t H1 locs ht hvm hpx hBX hz1 hk1 hS hce hcv hcl => ?_) (fun r u t H1 locs ht hvm hw hB hz1 hk1 hS => ?_)
  · obtain rfl := hBX
    have hP := fz_keep hP hk1
    generalize H1 = H at hP hS hce ⊢
    have hP : va_P (dC, dI) vwCl [(h0, .inr (12, [.ref hd, .ref hse, .ref hki, .ref hma, .ref hst, .ref hsp, .ref hlp, .ref htl, .int 0, .int 0, .int 0, .int 0, .int 0, .int 0, .int 0, .long ((0 : Int32).toInt64)])), (hd, .inr (6, [.ref hj, .ref hpr, .ref hqd, .int 0, .int 0, .int 1])), (ao, .inl (cJ, 1, .inr (.inl fo)))] H := hP
    have hD : va_D A [(h0, .inr (12, [.ref hd, .ref hse, .ref hki, .ref hma, .ref hst, .ref hsp, .ref hlp, .ref htl, .int 0, .int 0, .int 0, .int 0, .int 0, .int 0, .int 0, .long ((0 : Int32).toInt64)])), (hd, .inr (6, [.ref hj, .ref hpr, .ref hqd, .int 0, .int 0, .int 1])), (ao, .inl (cJ, 1, .inr (.inl fo)))] := hD
    refine vx_widen (k := 1) (n := 6) (Nat.le_of_ble_eq_true rfl) (Nat.le_of_ble_eq_true rfl) ?_
    refine vx_catch (own := RL) (name := "java/lang/IndexOutOfBoundsException") hown [] ⟨0, 10, 13, 23⟩ [⟨0, 10, 17, 13⟩, ⟨0, 10, 21, 15⟩] htab (fun z hz => nomatch hz) (by decide) (by decide) (hts _ (List.mem_cons_of_mem _ (List.mem_append_left _ (List.mem_of_getElem? (i := 0) rfl)))) (hAm.1.2.1 _ fz_x_IndexOutOfBounds).use hce hcv hcl ?_
    refine W.eq (g2 := F0 m 13 ls [.ref q9]) rfl ?_
    refine lv_astore (lv' := [(4, .ref q9), (0, .ref h0), (1, .int p0), (2, .int p1), (3, .ref ao)]) hx hb dL_set_13 hl (by decide) rfl (fun ls hl => ?_)
    refine lv_iconst (v := 1) hx hb dL_set_15 (by decide) ?_
    have hP9 := hP.sub (ws' := [(ao, .inl (cJ, 1, .inr (.inl fo)))]) [2] rfl
    have hD9 := hD.sub (ws' := [(ao, .inl (cJ, 1, .inr (.inl fo)))]) [2] (by decide) rfl
    have hK9 := hK.sub (tys' := [(cJ, .long)]) [0] rfl
    refine W.widen (k := 1) (n := 6) (Nat.le_of_ble_eq_true rfl) (Nat.le_of_ble_eq_true rfl) ?_
    exact W.iret (v := 1) hx hb hr (fun t ht hW => ⟨⟨1, (fo 0), rfl, rfl, ⟨fo, (by first | rfl | simp [vp_updL]), by rw [ht]; exact hP9, va_K.moved hW.alike hK9, hD9⟩⟩, hS.F ht⟩) hS.2.2 dL_set_16
  · exact hw.elim
def v_c_L_load : List Cond := .codeWith yL_load cL_load 5 (some .int) [(0, 17, 20, 23), (0, 17, 24, 13), (0, 17, 28, 15)] :: ([.classLink RL 23 "java/lang/IndexOutOfBoundsException"] ++ (wsV RL 97 RX7 yX7_load v_c_X7_load))
set_option maxRecDepth 20000 in
theorem i_c_L_load : ∀ w ∈ v_c_L_load, w ∈ lw_tbl := List.forall_mem_cons.mpr ⟨List.mem_of_getElem? (i := 1238) (by decide +kernel), List.forall_mem_append.mpr ⟨List.forall_mem_cons.mpr ⟨List.mem_of_getElem? (i := 577) (by decide +kernel), fun _ h => absurd h List.not_mem_nil⟩, (by unfold wsV; exact List.forall_mem_append.mpr ⟨List.forall_mem_cons.mpr ⟨List.mem_of_getElem? (i := 1239) (by decide +kernel), List.forall_mem_cons.mpr ⟨List.mem_of_getElem? (i := 1240) (by decide +kernel), List.forall_mem_cons.mpr ⟨List.mem_of_getElem? (i := 1241) (by decide +kernel), List.forall_mem_cons.mpr ⟨List.mem_of_getElem? (i := 49) (by decide +kernel), fun _ h => absurd h List.not_mem_nil⟩⟩⟩⟩, i_c_X7_load⟩)⟩⟩
set_option maxHeartbeats 4000000 in
set_option maxRecDepth 100000 in
theorem c_L_load (l : Launch) (dC : Nat → ClassId) (dI : Nat → Nat → Nat) (e0 : Nat) (hlT : l.stackTraces = false) (h0 : Nat) (p0 p1 : Int32) (ao hd hse hki hma hst hsp hlp htl hj hpr hqd : Nat) (cJ : ClassId) (fo : Nat → Int64) (sz : Nat) : Met l yL_load v_c_L_load ({ frames := 8, cells := 1, slots := 6, locals := 122 }) (fz_P (dC, dI) e0 [(h0, .inr (12, [.ref hd, .ref hse, .ref hki, .ref hma, .ref hst, .ref hsp, .ref hlp, .ref htl, .int 0, .int 0, .int 0, .int 0, .int 0, .int 0, .int 0, .long ((0 : Int32).toInt64)])), (hd, .inr (6, [.ref hj, .ref hpr, .ref hqd, .int 0, .int 0, .int 1])), (ao, .inl (cJ, 1, .inr (.inl fo)))] [(cJ, .long)] sz (va_A [(h0, .inr (12, [.ref hd, .ref hse, .ref hki, .ref hma, .ref hst, .ref hsp, .ref hlp, .ref htl, .int 0, .int 0, .int 0, .int 0, .int 0, .int 0, .int 0, .long ((0 : Int32).toInt64)])), (hd, .inr (6, [.ref hj, .ref hpr, .ref hqd, .int 0, .int 0, .int 1])), (ao, .inl (cJ, 1, .inr (.inl fo)))] sz) [.ref h0, .int p0, .int p1, .ref ao]) (va_Qi (fun (r : Int32) (u : Int64) => r = 1) (fun (u : Int64) (t : State) => ∃ fo2 : Nat → Int64, (fo2 0 = u) ∧ va_P (dC, dI) vwCl [(ao, .inl (cJ, 1, .inr (.inl fo2)))] t.heap ∧ va_K (dC, dI) vwCl [(cJ, .long)] t ∧ va_D (va_A [(h0, .inr (12, [.ref hd, .ref hse, .ref hki, .ref hma, .ref hst, .ref hsp, .ref hlp, .ref htl, .int 0, .int 0, .int 0, .int 0, .int 0, .int 0, .int 0, .long ((0 : Int32).toInt64)])), (hd, .inr (6, [.ref hj, .ref hpr, .ref hqd, .int 0, .int 0, .int 1])), (ao, .inl (cJ, 1, .inr (.inl fo)))] sz) [(ao, .inl (cJ, 1, .inr (.inl fo2)))]) (va_A [(h0, .inr (12, [.ref hd, .ref hse, .ref hki, .ref hma, .ref hst, .ref hsp, .ref hlp, .ref htl, .int 0, .int 0, .int 0, .int 0, .int 0, .int 0, .int 0, .long ((0 : Int32).toInt64)])), (hd, .inr (6, [.ref hj, .ref hpr, .ref hqd, .int 0, .int 0, .int 1])), (ao, .inl (cJ, 1, .inr (.inl fo)))] sz)) 1 6 (va_A [(h0, .inr (12, [.ref hd, .ref hse, .ref hki, .ref hma, .ref hst, .ref hsp, .ref hlp, .ref htl, .int 0, .int 0, .int 0, .int 0, .int 0, .int 0, .int 0, .long ((0 : Int32).toInt64)])), (hd, .inr (6, [.ref hj, .ref hpr, .ref hqd, .int 0, .int 0, .int 1])), (ao, .inl (cJ, 1, .inr (.inl fo)))] sz) := by
  refine va_MetW (cc := cL_load) (maxL := 5) (ret := (some .int)) (by decide) rfl ?_
  intro p e s m args below meth c s₁ B hml hv
  obtain ⟨rfl, hsz, hP, hK, hD0, hAm⟩ := hv
  have hx := B.exec
  have hb := B.bytes
  have hr := B.returns
  have hts := atoms_spec (ws := v_c_L_load) B.pre
  have hown : s.vm.findClass RL = some m.cls := findClass_of_methodNamed B.named
  have hlocks := B.notSynchronized
  have htab := vx_table (x := yL_load) B (hts _ List.mem_cons_self)
  subst hsz
  have hD := hD0.self (sz := s.heap.size)
  generalize hAe : va_A [(h0, .inr (12, [.ref hd, .ref hse, .ref hki, .ref hma, .ref hst, .ref hsp, .ref hlp, .ref htl, .int 0, .int 0, .int 0, .int 0, .int 0, .int 0, .int 0, .long ((0 : Int32).toInt64)])), (hd, .inr (6, [.ref hj, .ref hpr, .ref hqd, .int 0, .int 0, .int 1])), (ao, .inl (cJ, 1, .inr (.inl fo)))] s.heap.size = A at hD hAm ⊢
  have hA : ∀ q : Nat, s.heap.size ≤ q → A q := fun q h => by rw [← hAe]; exact Or.inr h
  have hS : va_S A s.heap s.heap [] := va_S.rf
  have hP : va_P (dC, dI) vwCl [(h0, .inr (12, [.ref hd, .ref hse, .ref hki, .ref hma, .ref hst, .ref hsp, .ref hlp, .ref htl, .int 0, .int 0, .int 0, .int 0, .int 0, .int 0, .int 0, .long ((0 : Int32).toInt64)])), (hd, .inr (6, [.ref hj, .ref hpr, .ref hqd, .int 0, .int 0, .int 1])), (ao, .inl (cJ, 1, .inr (.inl fo)))] s.heap := hP
  have hl := lv_entry ([.ref h0, .int p0, .int p1, .ref ao]) (n := 5) (Nat.le_of_ble_eq_true rfl)
  rw [lg_entry_eq]
  generalize (lg_sl ([.ref h0, .int p0, .int p1, .ref ao]) ++ List.replicate (5 - (lg_sl ([.ref h0, .int p0, .int p1, .ref ao])).length) Slot.unset).toArray = ls at hl ⊢
  have hl : lv_has ls 5 [(0, .ref h0), (1, .int p0), (2, .int p1), (3, .ref ao)] := hl
  refine lv_aload_n hx hb dL_load_0 rfl (lv_at hl 3 rfl) ?_
  refine lv_iconst (v := 0) hx hb dL_load_1 (by decide) ?_
  refine lv_aload_n hx hb dL_load_2 rfl (lv_at hl 0 rfl) ?_
  refine lv_iload_n hx hb dL_load_3 rfl (lv_at hl 1 rfl) ?_
  refine lv_iload_n hx hb dL_load_4 rfl (lv_at hl 2 rfl) ?_
  have hPc := hP.sub (ws' := [(h0, .inr (12, [.ref hd, .ref hse, .ref hki, .ref hma, .ref hst, .ref hsp, .ref hlp, .ref htl, .int 0, .int 0, .int 0, .int 0, .int 0, .int 0, .int 0, .long ((0 : Int32).toInt64)])), (hd, .inr (6, [.ref hj, .ref hpr, .ref hqd, .int 0, .int 0, .int 1]))]) [0, 1] rfl
  have hDc := hD.sub (ws' := [(h0, .inr (12, [.ref hd, .ref hse, .ref hki, .ref hma, .ref hst, .ref hsp, .ref hlp, .ref htl, .int 0, .int 0, .int 0, .int 0, .int 0, .int 0, .int 0, .long ((0 : Int32).toInt64)])), (hd, .inr (6, [.ref hj, .ref hpr, .ref hqd, .int 0, .int 0, .int 1]))]) [0, 1] (by decide) rfl
  have hKc := hK.sub (tys' := []) [] rfl
  have hFc : ∀ q : Nat, s.heap.size ≤ q → A q := fun q h => hA q (Nat.le_trans hS.1 h)
  refine vx_calli (vx_runV (As := [.int p0, .int p1]) (rest := [.int 0, .ref ao]) ⟨hx, hb, hml, hown, hts⟩ (c_X7_load l dC dI e0 hlT h0 p0 p1 hd hse hki hma hst hsp hlp htl hj hpr hqd s.heap.size) (cwV 2 hts (goodIn_sub (fun _ h9 => List.mem_cons_of_mem _ (List.mem_append_right _ (h9))) (by decide +kernel)) rfl rfl rfl (by decide +kernel) ⟨(Nat.le_of_ble_eq_true rfl), (Nat.le_of_ble_eq_true rfl)⟩) ⟨fz_blind, va_recv hKc hPc (ci := 12) (q0 := 0) rfl rfl, fz_pre hPc hKc hDc hAm hS hFc⟩ rfl rfl hl.1 rfl (lv_room (Nat.le_of_ble_eq_true rfl)) dL_load_5 ⟨(Nat.le_of_ble_eq_true rfl), (Nat.le_of_ble_eq_true rfl)⟩) hS (fun q _ h => hFc q h) hFc (fun q _ h => hFc q h) (fun E ce q9 u t H1 locs ht hvm hpx hBX hz1 hk1 hS hce hcv hcl => ?_) (fun r u t H1 locs ht hvm hw hB hz1 hk1 hS => ?_)
  · obtain rfl := hBX
    have hP := fz_keep hP hk1
    generalize H1 = H at hP hS hce ⊢
    have hP : va_P (dC, dI) vwCl [(h0, .inr (12, [.ref hd, .ref hse, .ref hki, .ref hma, .ref hst, .ref hsp, .ref hlp, .ref htl, .int 0, .int 0, .int 0, .int 0, .int 0, .int 0, .int 0, .long ((0 : Int32).toInt64)])), (hd, .inr (6, [.ref hj, .ref hpr, .ref hqd, .int 0, .int 0, .int 1])), (ao, .inl (cJ, 1, .inr (.inl fo)))] H := hP
    have hD : va_D A [(h0, .inr (12, [.ref hd, .ref hse, .ref hki, .ref hma, .ref hst, .ref hsp, .ref hlp, .ref htl, .int 0, .int 0, .int 0, .int 0, .int 0, .int 0, .int 0, .long ((0 : Int32).toInt64)])), (hd, .inr (6, [.ref hj, .ref hpr, .ref hqd, .int 0, .int 0, .int 1])), (ao, .inl (cJ, 1, .inr (.inl fo)))] := hD
    refine vx_widen (k := 1) (n := 6) (Nat.le_of_ble_eq_true rfl) (Nat.le_of_ble_eq_true rfl) ?_
    refine vx_catch (own := RL) (name := "java/lang/IndexOutOfBoundsException") hown [] ⟨0, 17, 20, 23⟩ [⟨0, 17, 24, 13⟩, ⟨0, 17, 28, 15⟩] htab (fun z hz => nomatch hz) (by decide) (by decide) (hts _ (List.mem_cons_of_mem _ (List.mem_append_left _ (List.mem_of_getElem? (i := 0) rfl)))) (hAm.1.2.1 _ fz_x_IndexOutOfBounds).use hce hcv hcl ?_
    refine W.eq (g2 := F0 m 20 ls [.ref q9]) rfl ?_
    refine lv_astore (lv' := [(4, .ref q9), (0, .ref h0), (1, .int p0), (2, .int p1), (3, .ref ao)]) hx hb dL_load_20 hl (by decide) rfl (fun ls hl => ?_)
    refine lv_iconst (v := 1) hx hb dL_load_22 (by decide) ?_
    have hP9 := hP.sub (ws' := [(ao, .inl (cJ, 1, .inr (.inl fo)))]) [2] rfl
    have hD9 := hD.sub (ws' := [(ao, .inl (cJ, 1, .inr (.inl fo)))]) [2] (by decide) rfl
    have hK9 := hK.sub (tys' := [(cJ, .long)]) [0] rfl
    refine W.widen (k := 1) (n := 6) (Nat.le_of_ble_eq_true rfl) (Nat.le_of_ble_eq_true rfl) ?_
    exact W.iret (v := 1) hx hb hr (fun t ht hW => ⟨⟨1, (fo 0), rfl, rfl, ⟨fo, (by first | rfl | simp [vp_updL]), by rw [ht]; exact hP9, va_K.moved hW.alike hK9, hD9⟩⟩, hS.F ht⟩) hS.2.2 dL_load_23
  · exact hw.elim
def v_c_L_markAt : List Cond := .codeWith yL_markAt cL_markAt 5 (some .int) [(0, 10, 13, 23)] :: ([.classLink RL 23 "java/lang/IndexOutOfBoundsException"] ++ (wsV RL 76 RX7 yX7_markAt v_c_X7_markAt))
set_option maxRecDepth 20000 in
theorem i_c_L_markAt : ∀ w ∈ v_c_L_markAt, w ∈ lw_tbl := List.forall_mem_cons.mpr ⟨List.mem_of_getElem? (i := 1158) (by decide +kernel), List.forall_mem_append.mpr ⟨List.forall_mem_cons.mpr ⟨List.mem_of_getElem? (i := 577) (by decide +kernel), fun _ h => absurd h List.not_mem_nil⟩, (by unfold wsV; exact List.forall_mem_append.mpr ⟨List.forall_mem_cons.mpr ⟨List.mem_of_getElem? (i := 1159) (by decide +kernel), List.forall_mem_cons.mpr ⟨List.mem_of_getElem? (i := 1160) (by decide +kernel), List.forall_mem_cons.mpr ⟨List.mem_of_getElem? (i := 1161) (by decide +kernel), List.forall_mem_cons.mpr ⟨List.mem_of_getElem? (i := 49) (by decide +kernel), fun _ h => absurd h List.not_mem_nil⟩⟩⟩⟩, i_c_X7_markAt⟩)⟩⟩
set_option maxHeartbeats 4000000 in
set_option maxRecDepth 100000 in
theorem c_L_markAt (l : Launch) (dC : Nat → ClassId) (dI : Nat → Nat → Nat) (e0 : Nat) (hlT : l.stackTraces = false) (h0 : Nat) (p0 p1 : Int32) (ao hd hse hki hma hst hsp hlp htl : Nat) (cJ : ClassId) (fo : Nat → Int64) (sz : Nat) : Met l yL_markAt v_c_L_markAt ({ frames := 8, cells := 1, slots := 6, locals := 123 }) (fz_P (dC, dI) e0 [(h0, .inr (12, [.ref hd, .ref hse, .ref hki, .ref hma, .ref hst, .ref hsp, .ref hlp, .ref htl, .int 0, .int 0, .int 0, .int 0, .int 0, .int 0, .int 0, .long ((0 : Int32).toInt64)])), (ao, .inl (cJ, 1, .inr (.inl fo)))] [(cJ, .long)] sz (va_A [(h0, .inr (12, [.ref hd, .ref hse, .ref hki, .ref hma, .ref hst, .ref hsp, .ref hlp, .ref htl, .int 0, .int 0, .int 0, .int 0, .int 0, .int 0, .int 0, .long ((0 : Int32).toInt64)])), (ao, .inl (cJ, 1, .inr (.inl fo)))] sz) [.ref h0, .int p0, .int p1, .ref ao]) (va_Qi (fun (r : Int32) (u : Int64) => r = 1) (fun (u : Int64) (t : State) => ∃ fo2 : Nat → Int64, (fo2 0 = u) ∧ va_P (dC, dI) vwCl [(ao, .inl (cJ, 1, .inr (.inl fo2)))] t.heap ∧ va_K (dC, dI) vwCl [(cJ, .long)] t ∧ va_D (va_A [(h0, .inr (12, [.ref hd, .ref hse, .ref hki, .ref hma, .ref hst, .ref hsp, .ref hlp, .ref htl, .int 0, .int 0, .int 0, .int 0, .int 0, .int 0, .int 0, .long ((0 : Int32).toInt64)])), (ao, .inl (cJ, 1, .inr (.inl fo)))] sz) [(ao, .inl (cJ, 1, .inr (.inl fo2)))]) (va_A [(h0, .inr (12, [.ref hd, .ref hse, .ref hki, .ref hma, .ref hst, .ref hsp, .ref hlp, .ref htl, .int 0, .int 0, .int 0, .int 0, .int 0, .int 0, .int 0, .long ((0 : Int32).toInt64)])), (ao, .inl (cJ, 1, .inr (.inl fo)))] sz)) 1 6 (va_A [(h0, .inr (12, [.ref hd, .ref hse, .ref hki, .ref hma, .ref hst, .ref hsp, .ref hlp, .ref htl, .int 0, .int 0, .int 0, .int 0, .int 0, .int 0, .int 0, .long ((0 : Int32).toInt64)])), (ao, .inl (cJ, 1, .inr (.inl fo)))] sz) := by
  refine va_MetW (cc := cL_markAt) (maxL := 5) (ret := (some .int)) (by decide) rfl ?_
  intro p e s m args below meth c s₁ B hml hv
  obtain ⟨rfl, hsz, hP, hK, hD0, hAm⟩ := hv
  have hx := B.exec
  have hb := B.bytes
  have hr := B.returns
  have hts := atoms_spec (ws := v_c_L_markAt) B.pre
  have hown : s.vm.findClass RL = some m.cls := findClass_of_methodNamed B.named
  have hlocks := B.notSynchronized
  have htab := vx_table (x := yL_markAt) B (hts _ List.mem_cons_self)
  subst hsz
  have hD := hD0.self (sz := s.heap.size)
  generalize hAe : va_A [(h0, .inr (12, [.ref hd, .ref hse, .ref hki, .ref hma, .ref hst, .ref hsp, .ref hlp, .ref htl, .int 0, .int 0, .int 0, .int 0, .int 0, .int 0, .int 0, .long ((0 : Int32).toInt64)])), (ao, .inl (cJ, 1, .inr (.inl fo)))] s.heap.size = A at hD hAm ⊢
  have hA : ∀ q : Nat, s.heap.size ≤ q → A q := fun q h => by rw [← hAe]; exact Or.inr h
  have hS : va_S A s.heap s.heap [] := va_S.rf
  have hP : va_P (dC, dI) vwCl [(h0, .inr (12, [.ref hd, .ref hse, .ref hki, .ref hma, .ref hst, .ref hsp, .ref hlp, .ref htl, .int 0, .int 0, .int 0, .int 0, .int 0, .int 0, .int 0, .long ((0 : Int32).toInt64)])), (ao, .inl (cJ, 1, .inr (.inl fo)))] s.heap := hP
  have hl := lv_entry ([.ref h0, .int p0, .int p1, .ref ao]) (n := 5) (Nat.le_of_ble_eq_true rfl)
  rw [lg_entry_eq]
  generalize (lg_sl ([.ref h0, .int p0, .int p1, .ref ao]) ++ List.replicate (5 - (lg_sl ([.ref h0, .int p0, .int p1, .ref ao])).length) Slot.unset).toArray = ls at hl ⊢
  have hl : lv_has ls 5 [(0, .ref h0), (1, .int p0), (2, .int p1), (3, .ref ao)] := hl
  refine lv_aload_n hx hb dL_markAt_0 rfl (lv_at hl 3 rfl) ?_
  refine lv_iconst (v := 0) hx hb dL_markAt_1 (by decide) ?_
  refine lv_aload_n hx hb dL_markAt_2 rfl (lv_at hl 0 rfl) ?_
  refine lv_iload_n hx hb dL_markAt_3 rfl (lv_at hl 1 rfl) ?_
  refine lv_iload_n hx hb dL_markAt_4 rfl (lv_at hl 2 rfl) ?_
  have hPc := hP.sub (ws' := [(h0, .inr (12, [.ref hd, .ref hse, .ref hki, .ref hma, .ref hst, .ref hsp, .ref hlp, .ref htl, .int 0, .int 0, .int 0, .int 0, .int 0, .int 0, .int 0, .long ((0 : Int32).toInt64)]))]) [0] rfl
  have hDc := hD.sub (ws' := [(h0, .inr (12, [.ref hd, .ref hse, .ref hki, .ref hma, .ref hst, .ref hsp, .ref hlp, .ref htl, .int 0, .int 0, .int 0, .int 0, .int 0, .int 0, .int 0, .long ((0 : Int32).toInt64)]))]) [0] (by decide) rfl
  have hKc := hK.sub (tys' := []) [] rfl
  have hFc : ∀ q : Nat, s.heap.size ≤ q → A q := fun q h => hA q (Nat.le_trans hS.1 h)
  refine vx_calli (vx_runV (As := [.int p0, .int p1]) (rest := [.int 0, .ref ao]) ⟨hx, hb, hml, hown, hts⟩ (c_X7_markAt l dC dI e0 hlT h0 p0 p1 hd hse hki hma hst hsp hlp htl s.heap.size) (cwV 2 hts (goodIn_sub (fun _ h9 => List.mem_cons_of_mem _ (List.mem_append_right _ (h9))) (by decide +kernel)) rfl rfl rfl (by decide +kernel) ⟨(Nat.le_of_ble_eq_true rfl), (Nat.le_of_ble_eq_true rfl)⟩) ⟨fz_blind, va_recv hKc hPc (ci := 12) (q0 := 0) rfl rfl, fz_pre hPc hKc hDc hAm hS hFc⟩ rfl rfl hl.1 rfl (lv_room (Nat.le_of_ble_eq_true rfl)) dL_markAt_5 ⟨(Nat.le_of_ble_eq_true rfl), (Nat.le_of_ble_eq_true rfl)⟩) hS (fun q _ h => hFc q h) hFc (fun q _ h => hFc q h) (fun E ce q9 u t H1 locs ht hvm hpx hBX hz1 hk1 hS hce hcv hcl => ?_) (fun r u t H1 locs ht hvm hw hB hz1 hk1 hS => ?_)
  · obtain rfl := hBX
    have hP := fz_keep hP hk1
    generalize H1 = H at hP hS hce ⊢
    have hP : va_P (dC, dI) vwCl [(h0, .inr (12, [.ref hd, .ref hse, .ref hki, .ref hma, .ref hst, .ref hsp, .ref hlp, .ref htl, .int 0, .int 0, .int 0, .int 0, .int 0, .int 0, .int 0, .long ((0 : Int32).toInt64)])), (ao, .inl (cJ, 1, .inr (.inl fo)))] H := hP
    have hD : va_D A [(h0, .inr (12, [.ref hd, .ref hse, .ref hki, .ref hma, .ref hst, .ref hsp, .ref hlp, .ref htl, .int 0, .int 0, .int 0, .int 0, .int 0, .int 0, .int 0, .long ((0 : Int32).toInt64)])), (ao, .inl (cJ, 1, .inr (.inl fo)))] := hD
    refine vx_widen (k := 1) (n := 6) (Nat.le_of_ble_eq_true rfl) (Nat.le_of_ble_eq_true rfl) ?_
    refine vx_catch (own := RL) (name := "java/lang/IndexOutOfBoundsException") hown [] ⟨0, 10, 13, 23⟩ [] htab (fun z hz => nomatch hz) (by decide) (by decide) (hts _ (List.mem_cons_of_mem _ (List.mem_append_left _ (List.mem_of_getElem? (i := 0) rfl)))) (hAm.1.2.1 _ fz_x_IndexOutOfBounds).use hce hcv hcl ?_
    refine W.eq (g2 := F0 m 13 ls [.ref q9]) rfl ?_
    refine lv_astore (lv' := [(4, .ref q9), (0, .ref h0), (1, .int p0), (2, .int p1), (3, .ref ao)]) hx hb dL_markAt_13 hl (by decide) rfl (fun ls hl => ?_)
    refine lv_iconst (v := 1) hx hb dL_markAt_15 (by decide) ?_
    have hP9 := hP.sub (ws' := [(ao, .inl (cJ, 1, .inr (.inl fo)))]) [1] rfl
    have hD9 := hD.sub (ws' := [(ao, .inl (cJ, 1, .inr (.inl fo)))]) [1] (by decide) rfl
    have hK9 := hK.sub (tys' := [(cJ, .long)]) [0] rfl
    refine W.widen (k := 1) (n := 6) (Nat.le_of_ble_eq_true rfl) (Nat.le_of_ble_eq_true rfl) ?_
    exact W.iret (v := 1) hx hb hr (fun t ht hW => ⟨⟨1, (fo 0), rfl, rfl, ⟨fo, (by first | rfl | simp [vp_updL]), by rw [ht]; exact hP9, va_K.moved hW.alike hK9, hD9⟩⟩, hS.F ht⟩) hS.2.2 dL_markAt_16
  · exact hw.elim
def v_c_L_addBlocks : List Cond := .codeWith yL_addBlocks cL_addBlocks 8 (some .int) [(0, 16, 19, 13), (0, 16, 23, 17)] :: ([.classLink RL 13 "java/lang/IllegalArgumentException"] ++ (wsV RL 49 RX7 yX7_addBlocks v_c_X7_addBlocks))
set_option maxRecDepth 20000 in
theorem i_c_L_addBlocks : ∀ w ∈ v_c_L_addBlocks, w ∈ lw_tbl := List.forall_mem_cons.mpr ⟨List.mem_of_getElem? (i := 715) (by decide +kernel), List.forall_mem_append.mpr ⟨List.forall_mem_cons.mpr ⟨List.mem_of_getElem? (i := 427) (by decide +kernel), fun _ h => absurd h List.not_mem_nil⟩, (by unfold wsV; exact List.forall_mem_append.mpr ⟨List.forall_mem_cons.mpr ⟨List.mem_of_getElem? (i := 716) (by decide +kernel), List.forall_mem_cons.mpr ⟨List.mem_of_getElem? (i := 717) (by decide +kernel), List.forall_mem_cons.mpr ⟨List.mem_of_getElem? (i := 718) (by decide +kernel), List.forall_mem_cons.mpr ⟨List.mem_of_getElem? (i := 49) (by decide +kernel), fun _ h => absurd h List.not_mem_nil⟩⟩⟩⟩, i_c_X7_addBlocks⟩)⟩⟩
set_option maxHeartbeats 4000000 in
set_option maxRecDepth 100000 in
theorem c_L_addBlocks (l : Launch) (dC : Nat → ClassId) (dI : Nat → Nat → Nat) (e0 : Nat) (hlT : l.stackTraces = false) (h0 : Nat) (p0 p1 p2 p3 b4 : Int32) (ao hd hse hki hma hst hsp hlp htl : Nat) (cK : ClassId) (fki : Nat → Option Nat) (cJ : ClassId) (fo : Nat → Int64) (sz : Nat) (h_b4 : b4 = 0 ∨ b4 = 1) : Met l yL_addBlocks v_c_L_addBlocks ({ frames := 8, cells := 1, slots := 6, locals := 125 }) (fz_P (dC, dI) e0 [(h0, .inr (12, [.ref hd, .ref hse, .ref hki, .ref hma, .ref hst, .ref hsp, .ref hlp, .ref htl, .int 0, .int 0, .int 0, .int 0, .int 0, .int 0, .int 0, .long ((0 : Int32).toInt64)])), (hki, .inl (cK, 6, .inr (.inr (.inr (.inr fki))))), (ao, .inl (cJ, 1, .inr (.inl fo)))] [(cK, .object RX0), (cJ, .long)] sz (va_A [(h0, .inr (12, [.ref hd, .ref hse, .ref hki, .ref hma, .ref hst, .ref hsp, .ref hlp, .ref htl, .int 0, .int 0, .int 0, .int 0, .int 0, .int 0, .int 0, .long ((0 : Int32).toInt64)])), (hki, .inl (cK, 6, .inr (.inr (.inr (.inr fki))))), (ao, .inl (cJ, 1, .inr (.inl fo)))] sz) [.ref h0, .int p0, .int p1, .int p2, .int p3, .int b4, .ref ao]) (va_Qi (fun (r : Int32) (u : Int64) => (r = 0 ∧ u = (0 : Int32).toInt64 ∧ ((fz_in p0 1 20 ∧ fz_in p1 1 20 ∧ fz_in p2 1 99 ∧ fz_in p3 0 999))) ∨ (r = 1 ∧ (¬ (fz_in p0 1 20 ∧ fz_in p1 1 20 ∧ fz_in p2 1 99 ∧ fz_in p3 0 999)))) (fun (u : Int64) (t : State) => ∃ fo2 : Nat → Int64, (fo2 0 = u) ∧ va_P (dC, dI) vwCl [(ao, .inl (cJ, 1, .inr (.inl fo2)))] t.heap ∧ va_K (dC, dI) vwCl [(cJ, .long)] t ∧ va_D (va_A [(h0, .inr (12, [.ref hd, .ref hse, .ref hki, .ref hma, .ref hst, .ref hsp, .ref hlp, .ref htl, .int 0, .int 0, .int 0, .int 0, .int 0, .int 0, .int 0, .long ((0 : Int32).toInt64)])), (hki, .inl (cK, 6, .inr (.inr (.inr (.inr fki))))), (ao, .inl (cJ, 1, .inr (.inl fo)))] sz) [(ao, .inl (cJ, 1, .inr (.inl fo2)))]) (va_A [(h0, .inr (12, [.ref hd, .ref hse, .ref hki, .ref hma, .ref hst, .ref hsp, .ref hlp, .ref htl, .int 0, .int 0, .int 0, .int 0, .int 0, .int 0, .int 0, .long ((0 : Int32).toInt64)])), (hki, .inl (cK, 6, .inr (.inr (.inr (.inr fki))))), (ao, .inl (cJ, 1, .inr (.inl fo)))] sz)) 1 6 (va_A [(h0, .inr (12, [.ref hd, .ref hse, .ref hki, .ref hma, .ref hst, .ref hsp, .ref hlp, .ref htl, .int 0, .int 0, .int 0, .int 0, .int 0, .int 0, .int 0, .long ((0 : Int32).toInt64)])), (hki, .inl (cK, 6, .inr (.inr (.inr (.inr fki))))), (ao, .inl (cJ, 1, .inr (.inl fo)))] sz) := by
  refine va_MetW (cc := cL_addBlocks) (maxL := 8) (ret := (some .int)) (by decide) rfl ?_
  intro p e s m args below meth c s₁ B hml hv
  obtain ⟨rfl, hsz, hP, hK, hD0, hAm⟩ := hv
  have hx := B.exec
  have hb := B.bytes
  have hr := B.returns
  have hts := atoms_spec (ws := v_c_L_addBlocks) B.pre
  have hown : s.vm.findClass RL = some m.cls := findClass_of_methodNamed B.named
  have hlocks := B.notSynchronized
  have htab := vx_table (x := yL_addBlocks) B (hts _ List.mem_cons_self)
  subst hsz
  have hD := hD0.self (sz := s.heap.size)
  generalize hAe : va_A [(h0, .inr (12, [.ref hd, .ref hse, .ref hki, .ref hma, .ref hst, .ref hsp, .ref hlp, .ref htl, .int 0, .int 0, .int 0, .int 0, .int 0, .int 0, .int 0, .long ((0 : Int32).toInt64)])), (hki, .inl (cK, 6, .inr (.inr (.inr (.inr fki))))), (ao, .inl (cJ, 1, .inr (.inl fo)))] s.heap.size = A at hD hAm ⊢
  have hA : ∀ q : Nat, s.heap.size ≤ q → A q := fun q h => by rw [← hAe]; exact Or.inr h
  have hS : va_S A s.heap s.heap [] := va_S.rf
  have hP : va_P (dC, dI) vwCl [(h0, .inr (12, [.ref hd, .ref hse, .ref hki, .ref hma, .ref hst, .ref hsp, .ref hlp, .ref htl, .int 0, .int 0, .int 0, .int 0, .int 0, .int 0, .int 0, .long ((0 : Int32).toInt64)])), (hki, .inl (cK, 6, .inr (.inr (.inr (.inr fki))))), (ao, .inl (cJ, 1, .inr (.inl fo)))] s.heap := hP
  have hl := lv_entry ([.ref h0, .int p0, .int p1, .int p2, .int p3, .int b4, .ref ao]) (n := 8) (Nat.le_of_ble_eq_true rfl)
  rw [lg_entry_eq]
  generalize (lg_sl ([.ref h0, .int p0, .int p1, .int p2, .int p3, .int b4, .ref ao]) ++ List.replicate (8 - (lg_sl ([.ref h0, .int p0, .int p1, .int p2, .int p3, .int b4, .ref ao])).length) Slot.unset).toArray = ls at hl ⊢
  have hl : lv_has ls 8 [(0, .ref h0), (1, .int p0), (2, .int p1), (3, .int p2), (4, .int p3), (5, .int b4), (6, .ref ao)] := hl
  refine lv_aload hx hb dL_addBlocks_0 (lv_at hl 6 rfl) ?_
  refine lv_iconst (v := 0) hx hb dL_addBlocks_2 (by decide) ?_
  refine lv_aload_n hx hb dL_addBlocks_3 rfl (lv_at hl 0 rfl) ?_
  refine lv_iload_n hx hb dL_addBlocks_4 rfl (lv_at hl 1 rfl) ?_
  refine lv_iload_n hx hb dL_addBlocks_5 rfl (lv_at hl 2 rfl) ?_
  refine lv_iload_n hx hb dL_addBlocks_6 rfl (lv_at hl 3 rfl) ?_
  refine lv_iload hx hb dL_addBlocks_7 (lv_at hl 4 rfl) ?_
  refine lv_iload hx hb dL_addBlocks_9 (lv_at hl 5 rfl) ?_
  have hPc := hP.sub (ws' := [(h0, .inr (12, [.ref hd, .ref hse, .ref hki, .ref hma, .ref hst, .ref hsp, .ref hlp, .ref htl, .int 0, .int 0, .int 0, .int 0, .int 0, .int 0, .int 0, .long ((0 : Int32).toInt64)])), (hki, .inl (cK, 6, .inr (.inr (.inr (.inr fki)))))]) [0, 1] rfl
  have hDc := hD.sub (ws' := [(h0, .inr (12, [.ref hd, .ref hse, .ref hki, .ref hma, .ref hst, .ref hsp, .ref hlp, .ref htl, .int 0, .int 0, .int 0, .int 0, .int 0, .int 0, .int 0, .long ((0 : Int32).toInt64)])), (hki, .inl (cK, 6, .inr (.inr (.inr (.inr fki)))))]) [0, 1] (by decide) rfl
  have hKc := hK.sub (tys' := [(cK, .object RX0)]) [0] rfl
  have hFc := va_free (wc := [(h0, .inr (12, [.ref hd, .ref hse, .ref hki, .ref hma, .ref hst, .ref hsp, .ref hlp, .ref htl, .int 0, .int 0, .int 0, .int 0, .int 0, .int 0, .int 0, .long ((0 : Int32).toInt64)])), (hki, .inl (cK, 6, .inr (.inr (.inr (.inr fki)))))]) hD hS hA [0, 1] rfl
  refine vx_calli (vx_runV (As := [.int p0, .int p1, .int p2, .int p3, .int b4]) (rest := [.int 0, .ref ao]) ⟨hx, hb, hml, hown, hts⟩ (c_X7_addBlocks l dC dI e0 hlT h0 p0 p1 p2 p3 b4 hd hse hki hma hst hsp hlp htl cK fki s.heap.size h_b4) (cwV 5 hts (goodIn_sub (fun _ h9 => List.mem_cons_of_mem _ (List.mem_append_right _ (h9))) (by decide +kernel)) rfl rfl rfl (by decide +kernel) ⟨(Nat.le_of_ble_eq_true rfl), (Nat.le_of_ble_eq_true rfl)⟩) ⟨fz_blind, va_recv hKc hPc (ci := 12) (q0 := 0) rfl rfl, fz_pre hPc hKc hDc hAm hS hFc⟩ rfl rfl hl.1 rfl (lv_room (Nat.le_of_ble_eq_true rfl)) dL_addBlocks_11 ⟨(Nat.le_of_ble_eq_true rfl), (Nat.le_of_ble_eq_true rfl)⟩) hS (fun q _ h => hFc q h) hFc (fun q _ h => hFc q h) (fun E ce q9 u t H1 locs ht hvm hpx hBX hz1 hk1 hS hce hcv hcl => ?_) (fun r u t H1 locs ht hvm hw hB hz1 hk1 hS => ?_)
  · obtain ⟨rfl, hp_1⟩ := hBX
    obtain ⟨hP, hD⟩ := fz_keepC (WC := [(h0, .inr (12, [.ref hd, .ref hse, .ref hki, .ref hma, .ref hst, .ref hsp, .ref hlp, .ref htl, .int 0, .int 0, .int 0, .int 0, .int 0, .int 0, .int 0, .long ((0 : Int32).toInt64)])), (hki, .inl (cK, 6, .inr (.inr (.inr (.inr fki)))))]) (WR := [(ao, .inl (cJ, 1, .inr (.inl fo)))]) hP hD [0, 1] [2] rfl rfl (by decide) (by decide) hk1 hFc
    generalize H1 = H at hP hS hce ⊢
    have hP : va_P (dC, dI) vwCl [(ao, .inl (cJ, 1, .inr (.inl fo)))] H := hP
    have hD : va_D A [(ao, .inl (cJ, 1, .inr (.inl fo)))] := hD
    have hK : va_K (dC, dI) vwCl [(cK, .object RX0), (cJ, .long)] s := hK
    refine vx_widen (k := 1) (n := 6) (Nat.le_of_ble_eq_true rfl) (Nat.le_of_ble_eq_true rfl) ?_
    refine vx_catch (own := RL) (name := "java/lang/IllegalArgumentException") hown [] ⟨0, 16, 19, 13⟩ [⟨0, 16, 23, 17⟩] htab (fun z hz => nomatch hz) (by decide) (by decide) (hts _ (List.mem_cons_of_mem _ (List.mem_append_left _ (List.mem_of_getElem? (i := 0) rfl)))) (hAm.1.2.1 _ fz_x_IllegalArgument).use hce hcv hcl ?_
    refine W.eq (g2 := F0 m 19 ls [.ref q9]) rfl ?_
    refine lv_astore (lv' := [(7, .ref q9), (0, .ref h0), (1, .int p0), (2, .int p1), (3, .int p2), (4, .int p3), (5, .int b4), (6, .ref ao)]) hx hb dL_addBlocks_19 hl (by decide) rfl (fun ls hl => ?_)
    refine lv_iconst (v := 1) hx hb dL_addBlocks_21 (by decide) ?_
    have hP9 := hP.sub (ws' := [(ao, .inl (cJ, 1, .inr (.inl fo)))]) [0] rfl
    have hD9 := hD.sub (ws' := [(ao, .inl (cJ, 1, .inr (.inl fo)))]) [0] (by decide) rfl
    have hK9 := hK.sub (tys' := [(cJ, .long)]) [1] rfl
    refine W.widen (k := 1) (n := 6) (Nat.le_of_ble_eq_true rfl) (Nat.le_of_ble_eq_true rfl) ?_
    exact W.iret (v := 1) hx hb hr (fun t ht hW => ⟨⟨1, (fo 0), rfl, Or.inr (⟨rfl, hp_1⟩), ⟨fo, (by first | rfl | simp [vp_updL]), by rw [ht]; exact hP9, va_K.moved hW.alike hK9, hD9⟩⟩, hS.F ht⟩) hS.2.2 dL_addBlocks_22
  · obtain ⟨rfl, hp_2⟩ := hw
    obtain ⟨hP, hD⟩ := fz_keepC (WC := [(h0, .inr (12, [.ref hd, .ref hse, .ref hki, .ref hma, .ref hst, .ref hsp, .ref hlp, .ref htl, .int 0, .int 0, .int 0, .int 0, .int 0, .int 0, .int 0, .long ((0 : Int32).toInt64)])), (hki, .inl (cK, 6, .inr (.inr (.inr (.inr fki)))))]) (WR := [(ao, .inl (cJ, 1, .inr (.inl fo)))]) hP hD [0, 1] [2] rfl rfl (by decide) (by decide) hk1 hFc
    generalize H1 = H at hP hS ⊢
    have hP : va_P (dC, dI) vwCl [(ao, .inl (cJ, 1, .inr (.inl fo)))] H := hP
    have hD : va_D A [(ao, .inl (cJ, 1, .inr (.inl fo)))] := hD
    have hK : va_K (dC, dI) vwCl [(cK, .object RX0), (cJ, .long)] s := hK
    refine W.widen (k := 1) (n := 6) (Nat.le_of_ble_eq_true rfl) (Nat.le_of_ble_eq_true rfl) ?_
    refine lv_i2l (v := (0 : Int32).toInt64) hx hb dL_addBlocks_14 rfl ?_
    refine va_last hx hb hK hP hD hS 0 1 rfl rfl (fz_il (by decide)) dL_addBlocks_15 (fun H locs hP hD hS => ?_)
    have hP : va_P (dC, dI) vwCl [(ao, .inl (cJ, 1, .inr (.inl (vp_updL fo (0 : Int32).toNatClampNeg ((0 : Int32).toInt64)))))] H := hP
    have hD : va_D A [(ao, .inl (cJ, 1, .inr (.inl (vp_updL fo (0 : Int32).toNatClampNeg ((0 : Int32).toInt64)))))] := hD
    refine lv_goto (tgt := 27) hx hb dL_addBlocks_16 (by decide) ?_
    refine lv_iconst (v := 0) hx hb dL_addBlocks_27 (by decide) ?_
    have hP9 := hP.sub (ws' := [(ao, .inl (cJ, 1, .inr (.inl (vp_updL fo (0 : Int32).toNatClampNeg ((0 : Int32).toInt64)))))]) [0] rfl
    have hD9 := hD.sub (ws' := [(ao, .inl (cJ, 1, .inr (.inl (vp_updL fo (0 : Int32).toNatClampNeg ((0 : Int32).toInt64)))))]) [0] (by decide) rfl
    have hK9 := hK.sub (tys' := [(cJ, .long)]) [1] rfl
    refine W.widen (k := 1) (n := 6) (Nat.le_of_ble_eq_true rfl) (Nat.le_of_ble_eq_true rfl) ?_
    exact W.iret (v := 0) hx hb hr (fun t ht hW => ⟨⟨0, ((0 : Int32).toInt64), rfl, Or.inl (⟨rfl, rfl, hp_2⟩), ⟨(vp_updL fo (0 : Int32).toNatClampNeg ((0 : Int32).toInt64)), (by first | rfl | simp [vp_updL]), by rw [ht]; exact hP9, va_K.moved hW.alike hK9, hD9⟩⟩, hS.F ht⟩) hS.2.2 dL_addBlocks_28
def v_c_L_addMason : List Cond := .codeWith yL_addMason cL_addMason 5 (some .int) [(0, 10, 13, 13), (0, 10, 17, 17)] :: ([.classLink RL 13 "java/lang/IllegalArgumentException"] ++ (wsV RL 59 RX7 yX7_addMason v_c_X7_addMason))
set_option maxRecDepth 20000 in
theorem i_c_L_addMason : ∀ w ∈ v_c_L_addMason, w ∈ lw_tbl := List.forall_mem_cons.mpr ⟨List.mem_of_getElem? (i := 789) (by decide +kernel), List.forall_mem_append.mpr ⟨List.forall_mem_cons.mpr ⟨List.mem_of_getElem? (i := 427) (by decide +kernel), fun _ h => absurd h List.not_mem_nil⟩, (by unfold wsV; exact List.forall_mem_append.mpr ⟨List.forall_mem_cons.mpr ⟨List.mem_of_getElem? (i := 790) (by decide +kernel), List.forall_mem_cons.mpr ⟨List.mem_of_getElem? (i := 791) (by decide +kernel), List.forall_mem_cons.mpr ⟨List.mem_of_getElem? (i := 792) (by decide +kernel), List.forall_mem_cons.mpr ⟨List.mem_of_getElem? (i := 49) (by decide +kernel), fun _ h => absurd h List.not_mem_nil⟩⟩⟩⟩, i_c_X7_addMason⟩)⟩⟩
set_option maxHeartbeats 4000000 in
set_option maxRecDepth 100000 in
theorem c_L_addMason (l : Launch) (dC : Nat → ClassId) (dI : Nat → Nat → Nat) (e0 : Nat) (hlT : l.stackTraces = false) (h0 : Nat) (p0 p1 : Int32) (ao hd hse hki hma hst hsp hlp htl : Nat) (cM : ClassId) (fma : Nat → Option Nat) (cJ : ClassId) (fo : Nat → Int64) (sz : Nat) : Met l yL_addMason v_c_L_addMason ({ frames := 8, cells := 1, slots := 6, locals := 122 }) (fz_P (dC, dI) e0 [(h0, .inr (12, [.ref hd, .ref hse, .ref hki, .ref hma, .ref hst, .ref hsp, .ref hlp, .ref htl, .int 0, .int 0, .int 0, .int 0, .int 0, .int 0, .int 0, .long ((0 : Int32).toInt64)])), (hma, .inl (cM, 4, .inr (.inr (.inr (.inr fma))))), (ao, .inl (cJ, 1, .inr (.inl fo)))] [(cM, .object RX3), (cJ, .long)] sz (va_A [(h0, .inr (12, [.ref hd, .ref hse, .ref hki, .ref hma, .ref hst, .ref hsp, .ref hlp, .ref htl, .int 0, .int 0, .int 0, .int 0, .int 0, .int 0, .int 0, .long ((0 : Int32).toInt64)])), (hma, .inl (cM, 4, .inr (.inr (.inr (.inr fma))))), (ao, .inl (cJ, 1, .inr (.inl fo)))] sz) [.ref h0, .int p0, .int p1, .ref ao]) (va_Qi (fun (r : Int32) (u : Int64) => (r = 0 ∧ u = (0 : Int32).toInt64 ∧ ((fz_in p0 1 99 ∧ fz_in p1 0 9))) ∨ (r = 1 ∧ (¬ (fz_in p0 1 99 ∧ fz_in p1 0 9)))) (fun (u : Int64) (t : State) => ∃ fo2 : Nat → Int64, (fo2 0 = u) ∧ va_P (dC, dI) vwCl [(ao, .inl (cJ, 1, .inr (.inl fo2)))] t.heap ∧ va_K (dC, dI) vwCl [(cJ, .long)] t ∧ va_D (va_A [(h0, .inr (12, [.ref hd, .ref hse, .ref hki, .ref hma, .ref hst, .ref hsp, .ref hlp, .ref htl, .int 0, .int 0, .int 0, .int 0, .int 0, .int 0, .int 0, .long ((0 : Int32).toInt64)])), (hma, .inl (cM, 4, .inr (.inr (.inr (.inr fma))))), (ao, .inl (cJ, 1, .inr (.inl fo)))] sz) [(ao, .inl (cJ, 1, .inr (.inl fo2)))]) (va_A [(h0, .inr (12, [.ref hd, .ref hse, .ref hki, .ref hma, .ref hst, .ref hsp, .ref hlp, .ref htl, .int 0, .int 0, .int 0, .int 0, .int 0, .int 0, .int 0, .long ((0 : Int32).toInt64)])), (hma, .inl (cM, 4, .inr (.inr (.inr (.inr fma))))), (ao, .inl (cJ, 1, .inr (.inl fo)))] sz)) 1 6 (va_A [(h0, .inr (12, [.ref hd, .ref hse, .ref hki, .ref hma, .ref hst, .ref hsp, .ref hlp, .ref htl, .int 0, .int 0, .int 0, .int 0, .int 0, .int 0, .int 0, .long ((0 : Int32).toInt64)])), (hma, .inl (cM, 4, .inr (.inr (.inr (.inr fma))))), (ao, .inl (cJ, 1, .inr (.inl fo)))] sz) := by
  refine va_MetW (cc := cL_addMason) (maxL := 5) (ret := (some .int)) (by decide) rfl ?_
  intro p e s m args below meth c s₁ B hml hv
  obtain ⟨rfl, hsz, hP, hK, hD0, hAm⟩ := hv
  have hx := B.exec
  have hb := B.bytes
  have hr := B.returns
  have hts := atoms_spec (ws := v_c_L_addMason) B.pre
  have hown : s.vm.findClass RL = some m.cls := findClass_of_methodNamed B.named
  have hlocks := B.notSynchronized
  have htab := vx_table (x := yL_addMason) B (hts _ List.mem_cons_self)
  subst hsz
  have hD := hD0.self (sz := s.heap.size)
  generalize hAe : va_A [(h0, .inr (12, [.ref hd, .ref hse, .ref hki, .ref hma, .ref hst, .ref hsp, .ref hlp, .ref htl, .int 0, .int 0, .int 0, .int 0, .int 0, .int 0, .int 0, .long ((0 : Int32).toInt64)])), (hma, .inl (cM, 4, .inr (.inr (.inr (.inr fma))))), (ao, .inl (cJ, 1, .inr (.inl fo)))] s.heap.size = A at hD hAm ⊢
  have hA : ∀ q : Nat, s.heap.size ≤ q → A q := fun q h => by rw [← hAe]; exact Or.inr h
  have hS : va_S A s.heap s.heap [] := va_S.rf
  have hP : va_P (dC, dI) vwCl [(h0, .inr (12, [.ref hd, .ref hse, .ref hki, .ref hma, .ref hst, .ref hsp, .ref hlp, .ref htl, .int 0, .int 0, .int 0, .int 0, .int 0, .int 0, .int 0, .long ((0 : Int32).toInt64)])), (hma, .inl (cM, 4, .inr (.inr (.inr (.inr fma))))), (ao, .inl (cJ, 1, .inr (.inl fo)))] s.heap := hP
  have hl := lv_entry ([.ref h0, .int p0, .int p1, .ref ao]) (n := 5) (Nat.le_of_ble_eq_true rfl)
  rw [lg_entry_eq]
  generalize (lg_sl ([.ref h0, .int p0, .int p1, .ref ao]) ++ List.replicate (5 - (lg_sl ([.ref h0, .int p0, .int p1, .ref ao])).length) Slot.unset).toArray = ls at hl ⊢
  have hl : lv_has ls 5 [(0, .ref h0), (1, .int p0), (2, .int p1), (3, .ref ao)] := hl
  refine lv_aload_n hx hb dL_addMason_0 rfl (lv_at hl 3 rfl) ?_
  refine lv_iconst (v := 0) hx hb dL_addMason_1 (by decide) ?_
  refine lv_aload_n hx hb dL_addMason_2 rfl (lv_at hl 0 rfl) ?_
  refine lv_iload_n hx hb dL_addMason_3 rfl (lv_at hl 1 rfl) ?_
  refine lv_iload_n hx hb dL_addMason_4 rfl (lv_at hl 2 rfl) ?_
  have hPc := hP.sub (ws' := [(h0, .inr (12, [.ref hd, .ref hse, .ref hki, .ref hma, .ref hst, .ref hsp, .ref hlp, .ref htl, .int 0, .int 0, .int 0, .int 0, .int 0, .int 0, .int 0, .long ((0 : Int32).toInt64)])), (hma, .inl (cM, 4, .inr (.inr (.inr (.inr fma)))))]) [0, 1] rfl
  have hDc := hD.sub (ws' := [(h0, .inr (12, [.ref hd, .ref hse, .ref hki, .ref hma, .ref hst, .ref hsp, .ref hlp, .ref htl, .int 0, .int 0, .int 0, .int 0, .int 0, .int 0, .int 0, .long ((0 : Int32).toInt64)])), (hma, .inl (cM, 4, .inr (.inr (.inr (.inr fma)))))]) [0, 1] (by decide) rfl
  have hKc := hK.sub (tys' := [(cM, .object RX3)]) [0] rfl
  have hFc := va_free (wc := [(h0, .inr (12, [.ref hd, .ref hse, .ref hki, .ref hma, .ref hst, .ref hsp, .ref hlp, .ref htl, .int 0, .int 0, .int 0, .int 0, .int 0, .int 0, .int 0, .long ((0 : Int32).toInt64)])), (hma, .inl (cM, 4, .inr (.inr (.inr (.inr fma)))))]) hD hS hA [0, 1] rfl
  refine vx_calli (vx_runV (As := [.int p0, .int p1]) (rest := [.int 0, .ref ao]) ⟨hx, hb, hml, hown, hts⟩ (c_X7_addMason l dC dI e0 hlT h0 p0 p1 hd hse hki hma hst hsp hlp htl cM fma s.heap.size) (cwV 2 hts (goodIn_sub (fun _ h9 => List.mem_cons_of_mem _ (List.mem_append_right _ (h9))) (by decide +kernel)) rfl rfl rfl (by decide +kernel) ⟨(Nat.le_of_ble_eq_true rfl), (Nat.le_of_ble_eq_true rfl)⟩) ⟨fz_blind, va_recv hKc hPc (ci := 12) (q0 := 0) rfl rfl, fz_pre hPc hKc hDc hAm hS hFc⟩ rfl rfl hl.1 rfl (lv_room (Nat.le_of_ble_eq_true rfl)) dL_addMason_5 ⟨(Nat.le_of_ble_eq_true rfl), (Nat.le_of_ble_eq_true rfl)⟩) hS (fun q _ h => hFc q h) hFc (fun q _ h => hFc q h) (fun E ce q9 u t H1 locs ht hvm hpx hBX hz1 hk1 hS hce hcv hcl => ?_) (fun r u t H1 locs ht hvm hw hB hz1 hk1 hS => ?_)
  · obtain ⟨rfl, hp_1⟩ := hBX
    obtain ⟨hP, hD⟩ := fz_keepC (WC := [(h0, .inr (12, [.ref hd, .ref hse, .ref hki, .ref hma, .ref hst, .ref hsp, .ref hlp, .ref htl, .int 0, .int 0, .int 0, .int 0, .int 0, .int 0, .int 0, .long ((0 : Int32).toInt64)])), (hma, .inl (cM, 4, .inr (.inr (.inr (.inr fma)))))]) (WR := [(ao, .inl (cJ, 1, .inr (.inl fo)))]) hP hD [0, 1] [2] rfl rfl (by decide) (by decide) hk1 hFc
    generalize H1 = H at hP hS hce ⊢
    have hP : va_P (dC, dI) vwCl [(ao, .inl (cJ, 1, .inr (.inl fo)))] H := hP
    have hD : va_D A [(ao, .inl (cJ, 1, .inr (.inl fo)))] := hD
    have hK : va_K (dC, dI) vwCl [(cM, .object RX3), (cJ, .long)] s := hK
    refine vx_widen (k := 1) (n := 6) (Nat.le_of_ble_eq_true rfl) (Nat.le_of_ble_eq_true rfl) ?_
    refine vx_catch (own := RL) (name := "java/lang/IllegalArgumentException") hown [] ⟨0, 10, 13, 13⟩ [⟨0, 10, 17, 17⟩] htab (fun z hz => nomatch hz) (by decide) (by decide) (hts _ (List.mem_cons_of_mem _ (List.mem_append_left _ (List.mem_of_getElem? (i := 0) rfl)))) (hAm.1.2.1 _ fz_x_IllegalArgument).use hce hcv hcl ?_
    refine W.eq (g2 := F0 m 13 ls [.ref q9]) rfl ?_
    refine lv_astore (lv' := [(4, .ref q9), (0, .ref h0), (1, .int p0), (2, .int p1), (3, .ref ao)]) hx hb dL_addMason_13 hl (by decide) rfl (fun ls hl => ?_)
    refine lv_iconst (v := 1) hx hb dL_addMason_15 (by decide) ?_
    have hP9 := hP.sub (ws' := [(ao, .inl (cJ, 1, .inr (.inl fo)))]) [0] rfl
    have hD9 := hD.sub (ws' := [(ao, .inl (cJ, 1, .inr (.inl fo)))]) [0] (by decide) rfl
    have hK9 := hK.sub (tys' := [(cJ, .long)]) [1] rfl
    refine W.widen (k := 1) (n := 6) (Nat.le_of_ble_eq_true rfl) (Nat.le_of_ble_eq_true rfl) ?_
    exact W.iret (v := 1) hx hb hr (fun t ht hW => ⟨⟨1, (fo 0), rfl, Or.inr (⟨rfl, hp_1⟩), ⟨fo, (by first | rfl | simp [vp_updL]), by rw [ht]; exact hP9, va_K.moved hW.alike hK9, hD9⟩⟩, hS.F ht⟩) hS.2.2 dL_addMason_16
  · obtain ⟨rfl, hp_2⟩ := hw
    obtain ⟨hP, hD⟩ := fz_keepC (WC := [(h0, .inr (12, [.ref hd, .ref hse, .ref hki, .ref hma, .ref hst, .ref hsp, .ref hlp, .ref htl, .int 0, .int 0, .int 0, .int 0, .int 0, .int 0, .int 0, .long ((0 : Int32).toInt64)])), (hma, .inl (cM, 4, .inr (.inr (.inr (.inr fma)))))]) (WR := [(ao, .inl (cJ, 1, .inr (.inl fo)))]) hP hD [0, 1] [2] rfl rfl (by decide) (by decide) hk1 hFc
    generalize H1 = H at hP hS ⊢
    have hP : va_P (dC, dI) vwCl [(ao, .inl (cJ, 1, .inr (.inl fo)))] H := hP
    have hD : va_D A [(ao, .inl (cJ, 1, .inr (.inl fo)))] := hD
    have hK : va_K (dC, dI) vwCl [(cM, .object RX3), (cJ, .long)] s := hK
    refine W.widen (k := 1) (n := 6) (Nat.le_of_ble_eq_true rfl) (Nat.le_of_ble_eq_true rfl) ?_
    refine lv_i2l (v := (0 : Int32).toInt64) hx hb dL_addMason_8 rfl ?_
    refine va_last hx hb hK hP hD hS 0 1 rfl rfl (fz_il (by decide)) dL_addMason_9 (fun H locs hP hD hS => ?_)
    have hP : va_P (dC, dI) vwCl [(ao, .inl (cJ, 1, .inr (.inl (vp_updL fo (0 : Int32).toNatClampNeg ((0 : Int32).toInt64)))))] H := hP
    have hD : va_D A [(ao, .inl (cJ, 1, .inr (.inl (vp_updL fo (0 : Int32).toNatClampNeg ((0 : Int32).toInt64)))))] := hD
    refine lv_goto (tgt := 21) hx hb dL_addMason_10 (by decide) ?_
    refine lv_iconst (v := 0) hx hb dL_addMason_21 (by decide) ?_
    have hP9 := hP.sub (ws' := [(ao, .inl (cJ, 1, .inr (.inl (vp_updL fo (0 : Int32).toNatClampNeg ((0 : Int32).toInt64)))))]) [0] rfl
    have hD9 := hD.sub (ws' := [(ao, .inl (cJ, 1, .inr (.inl (vp_updL fo (0 : Int32).toNatClampNeg ((0 : Int32).toInt64)))))]) [0] (by decide) rfl
    have hK9 := hK.sub (tys' := [(cJ, .long)]) [1] rfl
    refine W.widen (k := 1) (n := 6) (Nat.le_of_ble_eq_true rfl) (Nat.le_of_ble_eq_true rfl) ?_
    exact W.iret (v := 0) hx hb hr (fun t ht hW => ⟨⟨0, ((0 : Int32).toInt64), rfl, Or.inl (⟨rfl, rfl, hp_2⟩), ⟨(vp_updL fo (0 : Int32).toNatClampNeg ((0 : Int32).toInt64)), (by first | rfl | simp [vp_updL]), by rw [ht]; exact hP9, va_K.moved hW.alike hK9, hD9⟩⟩, hS.F ht⟩) hS.2.2 dL_addMason_22
def v_c_L_cut : List Cond := .codeWith yL_cut cL_cut 6 (some .int) [(0, 12, 15, 23), (0, 12, 19, 15), (0, 12, 23, 17)] :: ([.classLink RL 23 "java/lang/IndexOutOfBoundsException"] ++ (wsV RL 62 RX7 yX7_cut v_c_X7_cut))
set_option maxRecDepth 20000 in
theorem i_c_L_cut : ∀ w ∈ v_c_L_cut, w ∈ lw_tbl := List.forall_mem_cons.mpr ⟨List.mem_of_getElem? (i := 819) (by decide +kernel), List.forall_mem_append.mpr ⟨List.forall_mem_cons.mpr ⟨List.mem_of_getElem? (i := 577) (by decide +kernel), fun _ h => absurd h List.not_mem_nil⟩, (by unfold wsV; exact List.forall_mem_append.mpr ⟨List.forall_mem_cons.mpr ⟨List.mem_of_getElem? (i := 820) (by decide +kernel), List.forall_mem_cons.mpr ⟨List.mem_of_getElem? (i := 821) (by decide +kernel), List.forall_mem_cons.mpr ⟨List.mem_of_getElem? (i := 822) (by decide +kernel), List.forall_mem_cons.mpr ⟨List.mem_of_getElem? (i := 49) (by decide +kernel), fun _ h => absurd h List.not_mem_nil⟩⟩⟩⟩, i_c_X7_cut⟩)⟩⟩
set_option maxHeartbeats 4000000 in
set_option maxRecDepth 100000 in
theorem c_L_cut (l : Launch) (dC : Nat → ClassId) (dI : Nat → Nat → Nat) (e0 : Nat) (hlT : l.stackTraces = false) (h0 : Nat) (p0 p1 p2 : Int32) (ao hd hse hki hma hst hsp hlp htl hj hpr hqd : Nat) (cJ : ClassId) (fo : Nat → Int64) (sz : Nat) : Met l yL_cut v_c_L_cut ({ frames := 8, cells := 1, slots := 6, locals := 128 }) (fz_P (dC, dI) e0 [(h0, .inr (12, [.ref hd, .ref hse, .ref hki, .ref hma, .ref hst, .ref hsp, .ref hlp, .ref htl, .int 0, .int 0, .int 0, .int 0, .int 0, .int 0, .int 0, .long ((0 : Int32).toInt64)])), (hd, .inr (6, [.ref hj, .ref hpr, .ref hqd, .int 0, .int 0, .int 1])), (ao, .inl (cJ, 1, .inr (.inl fo)))] [(cJ, .long)] sz (va_A [(h0, .inr (12, [.ref hd, .ref hse, .ref hki, .ref hma, .ref hst, .ref hsp, .ref hlp, .ref htl, .int 0, .int 0, .int 0, .int 0, .int 0, .int 0, .int 0, .long ((0 : Int32).toInt64)])), (hd, .inr (6, [.ref hj, .ref hpr, .ref hqd, .int 0, .int 0, .int 1])), (ao, .inl (cJ, 1, .inr (.inl fo)))] sz) [.ref h0, .int p0, .int p1, .int p2, .ref ao]) (va_Qi (fun (r : Int32) (u : Int64) => r = 1) (fun (u : Int64) (t : State) => ∃ fo2 : Nat → Int64, (fo2 0 = u) ∧ va_P (dC, dI) vwCl [(ao, .inl (cJ, 1, .inr (.inl fo2)))] t.heap ∧ va_K (dC, dI) vwCl [(cJ, .long)] t ∧ va_D (va_A [(h0, .inr (12, [.ref hd, .ref hse, .ref hki, .ref hma, .ref hst, .ref hsp, .ref hlp, .ref htl, .int 0, .int 0, .int 0, .int 0, .int 0, .int 0, .int 0, .long ((0 : Int32).toInt64)])), (hd, .inr (6, [.ref hj, .ref hpr, .ref hqd, .int 0, .int 0, .int 1])), (ao, .inl (cJ, 1, .inr (.inl fo)))] sz) [(ao, .inl (cJ, 1, .inr (.inl fo2)))]) (va_A [(h0, .inr (12, [.ref hd, .ref hse, .ref hki, .ref hma, .ref hst, .ref hsp, .ref hlp, .ref htl, .int 0, .int 0, .int 0, .int 0, .int 0, .int 0, .int 0, .long ((0 : Int32).toInt64)])), (hd, .inr (6, [.ref hj, .ref hpr, .ref hqd, .int 0, .int 0, .int 1])), (ao, .inl (cJ, 1, .inr (.inl fo)))] sz)) 1 6 (va_A [(h0, .inr (12, [.ref hd, .ref hse, .ref hki, .ref hma, .ref hst, .ref hsp, .ref hlp, .ref htl, .int 0, .int 0, .int 0, .int 0, .int 0, .int 0, .int 0, .long ((0 : Int32).toInt64)])), (hd, .inr (6, [.ref hj, .ref hpr, .ref hqd, .int 0, .int 0, .int 1])), (ao, .inl (cJ, 1, .inr (.inl fo)))] sz) := by
  refine va_MetW (cc := cL_cut) (maxL := 6) (ret := (some .int)) (by decide) rfl ?_
  intro p e s m args below meth c s₁ B hml hv
  obtain ⟨rfl, hsz, hP, hK, hD0, hAm⟩ := hv
  have hx := B.exec
  have hb := B.bytes
  have hr := B.returns
  have hts := atoms_spec (ws := v_c_L_cut) B.pre
  have hown : s.vm.findClass RL = some m.cls := findClass_of_methodNamed B.named
  have hlocks := B.notSynchronized
  have htab := vx_table (x := yL_cut) B (hts _ List.mem_cons_self)
  subst hsz
  have hD := hD0.self (sz := s.heap.size)
  generalize hAe : va_A [(h0, .inr (12, [.ref hd, .ref hse, .ref hki, .ref hma, .ref hst, .ref hsp, .ref hlp, .ref htl, .int 0, .int 0, .int 0, .int 0, .int 0, .int 0, .int 0, .long ((0 : Int32).toInt64)])), (hd, .inr (6, [.ref hj, .ref hpr, .ref hqd, .int 0, .int 0, .int 1])), (ao, .inl (cJ, 1, .inr (.inl fo)))] s.heap.size = A at hD hAm ⊢
  have hA : ∀ q : Nat, s.heap.size ≤ q → A q := fun q h => by rw [← hAe]; exact Or.inr h
  have hS : va_S A s.heap s.heap [] := va_S.rf
  have hP : va_P (dC, dI) vwCl [(h0, .inr (12, [.ref hd, .ref hse, .ref hki, .ref hma, .ref hst, .ref hsp, .ref hlp, .ref htl, .int 0, .int 0, .int 0, .int 0, .int 0, .int 0, .int 0, .long ((0 : Int32).toInt64)])), (hd, .inr (6, [.ref hj, .ref hpr, .ref hqd, .int 0, .int 0, .int 1])), (ao, .inl (cJ, 1, .inr (.inl fo)))] s.heap := hP
  have hl := lv_entry ([.ref h0, .int p0, .int p1, .int p2, .ref ao]) (n := 6) (Nat.le_of_ble_eq_true rfl)
  rw [lg_entry_eq]
  generalize (lg_sl ([.ref h0, .int p0, .int p1, .int p2, .ref ao]) ++ List.replicate (6 - (lg_sl ([.ref h0, .int p0, .int p1, .int p2, .ref ao])).length) Slot.unset).toArray = ls at hl ⊢
  have hl : lv_has ls 6 [(0, .ref h0), (1, .int p0), (2, .int p1), (3, .int p2), (4, .ref ao)] := hl
  refine lv_aload hx hb dL_cut_0 (lv_at hl 4 rfl) ?_
  refine lv_iconst (v := 0) hx hb dL_cut_2 (by decide) ?_
  refine lv_aload_n hx hb dL_cut_3 rfl (lv_at hl 0 rfl) ?_
  refine lv_iload_n hx hb dL_cut_4 rfl (lv_at hl 1 rfl) ?_
  refine lv_iload_n hx hb dL_cut_5 rfl (lv_at hl 2 rfl) ?_
  refine lv_iload_n hx hb dL_cut_6 rfl (lv_at hl 3 rfl) ?_
  have hPc := hP.sub (ws' := [(h0, .inr (12, [.ref hd, .ref hse, .ref hki, .ref hma, .ref hst, .ref hsp, .ref hlp, .ref htl, .int 0, .int 0, .int 0, .int 0, .int 0, .int 0, .int 0, .long ((0 : Int32).toInt64)])), (hd, .inr (6, [.ref hj, .ref hpr, .ref hqd, .int 0, .int 0, .int 1]))]) [0, 1] rfl
  have hDc := hD.sub (ws' := [(h0, .inr (12, [.ref hd, .ref hse, .ref hki, .ref hma, .ref hst, .ref hsp, .ref hlp, .ref htl, .int 0, .int 0, .int 0, .int 0, .int 0, .int 0, .int 0, .long ((0 : Int32).toInt64)])), (hd, .inr (6, [.ref hj, .ref hpr, .ref hqd, .int 0, .int 0, .int 1]))]) [0, 1] (by decide) rfl
  have hKc := hK.sub (tys' := []) [] rfl
  have hFc : ∀ q : Nat, s.heap.size ≤ q → A q := fun q h => hA q (Nat.le_trans hS.1 h)
  refine vx_calli (vx_runV (As := [.int p0, .int p1, .int p2]) (rest := [.int 0, .ref ao]) ⟨hx, hb, hml, hown, hts⟩ (c_X7_cut l dC dI e0 hlT h0 p0 p1 p2 hd hse hki hma hst hsp hlp htl hj hpr hqd s.heap.size) (cwV 3 hts (goodIn_sub (fun _ h9 => List.mem_cons_of_mem _ (List.mem_append_right _ (h9))) (by decide +kernel)) rfl rfl rfl (by decide +kernel) ⟨(Nat.le_of_ble_eq_true rfl), (Nat.le_of_ble_eq_true rfl)⟩) ⟨fz_blind, va_recv hKc hPc (ci := 12) (q0 := 0) rfl rfl, fz_pre hPc hKc hDc hAm hS hFc⟩ rfl rfl hl.1 rfl (lv_room (Nat.le_of_ble_eq_true rfl)) dL_cut_7 ⟨(Nat.le_of_ble_eq_true rfl), (Nat.le_of_ble_eq_true rfl)⟩) hS (fun q _ h => hFc q h) hFc (fun q _ h => hFc q h) (fun E ce q9 u t H1 locs ht hvm hpx hBX hz1 hk1 hS hce hcv hcl => ?_) (fun r u t H1 locs ht hvm hw hB hz1 hk1 hS => ?_)
  · obtain rfl := hBX
    have hP := fz_keep hP hk1
    generalize H1 = H at hP hS hce ⊢
    have hP : va_P (dC, dI) vwCl [(h0, .inr (12, [.ref hd, .ref hse, .ref hki, .ref hma, .ref hst, .ref hsp, .ref hlp, .ref htl, .int 0, .int 0, .int 0, .int 0, .int 0, .int 0, .int 0, .long ((0 : Int32).toInt64)])), (hd, .inr (6, [.ref hj, .ref hpr, .ref hqd, .int 0, .int 0, .int 1])), (ao, .inl (cJ, 1, .inr (.inl fo)))] H := hP
    have hD : va_D A [(h0, .inr (12, [.ref hd, .ref hse, .ref hki, .ref hma, .ref hst, .ref hsp, .ref hlp, .ref htl, .int 0, .int 0, .int 0, .int 0, .int 0, .int 0, .int 0, .long ((0 : Int32).toInt64)])), (hd, .inr (6, [.ref hj, .ref hpr, .ref hqd, .int 0, .int 0, .int 1])), (ao, .inl (cJ, 1, .inr (.inl fo)))] := hD
    refine vx_widen (k := 1) (n := 6) (Nat.le_of_ble_eq_true rfl) (Nat.le_of_ble_eq_true rfl) ?_
    refine vx_catch (own := RL) (name := "java/lang/IndexOutOfBoundsException") hown [] ⟨0, 12, 15, 23⟩ [⟨0, 12, 19, 15⟩, ⟨0, 12, 23, 17⟩] htab (fun z hz => nomatch hz) (by decide) (by decide) (hts _ (List.mem_cons_of_mem _ (List.mem_append_left _ (List.mem_of_getElem? (i := 0) rfl)))) (hAm.1.2.1 _ fz_x_IndexOutOfBounds).use hce hcv hcl ?_
    refine W.eq (g2 := F0 m 15 ls [.ref q9]) rfl ?_
    refine lv_astore (lv' := [(5, .ref q9), (0, .ref h0), (1, .int p0), (2, .int p1), (3, .int p2), (4, .ref ao)]) hx hb dL_cut_15 hl (by decide) rfl (fun ls hl => ?_)
    refine lv_iconst (v := 1) hx hb dL_cut_17 (by decide) ?_
    have hP9 := hP.sub (ws' := [(ao, .inl (cJ, 1, .inr (.inl fo)))]) [2] rfl
    have hD9 := hD.sub (ws' := [(ao, .inl (cJ, 1, .inr (.inl fo)))]) [2] (by decide) rfl
    have hK9 := hK.sub (tys' := [(cJ, .long)]) [0] rfl
    refine W.widen (k := 1) (n := 6) (Nat.le_of_ble_eq_true rfl) (Nat.le_of_ble_eq_true rfl) ?_
    exact W.iret (v := 1) hx hb hr (fun t ht hW => ⟨⟨1, (fo 0), rfl, rfl, ⟨fo, (by first | rfl | simp [vp_updL]), by rw [ht]; exact hP9, va_K.moved hW.alike hK9, hD9⟩⟩, hS.F ht⟩) hS.2.2 dL_cut_18
  · exact hw.elim
def v_c_L_setCentre : List Cond := .codeWith yL_setCentre cL_setCentre 4 (some .int) [(0, 9, 12, 13), (0, 9, 15, 15)] :: ([.classLink RL 13 "java/lang/IllegalArgumentException"] ++ (wsV RL 84 RX7 yX7_setCentre v_c_X7_setCentre))
set_option maxRecDepth 20000 in
theorem i_c_L_setCentre : ∀ w ∈ v_c_L_setCentre, w ∈ lw_tbl := List.forall_mem_cons.mpr ⟨List.mem_of_getElem? (i := 1189) (by decide +kernel), List.forall_mem_append.mpr ⟨List.forall_mem_cons.mpr ⟨List.mem_of_getElem? (i := 427) (by decide +kernel), fun _ h => absurd h List.not_mem_nil⟩, (by unfold wsV; exact List.forall_mem_append.mpr ⟨List.forall_mem_cons.mpr ⟨List.mem_of_getElem? (i := 1190) (by decide +kernel), List.forall_mem_cons.mpr ⟨List.mem_of_getElem? (i := 1191) (by decide +kernel), List.forall_mem_cons.mpr ⟨List.mem_of_getElem? (i := 1192) (by decide +kernel), List.forall_mem_cons.mpr ⟨List.mem_of_getElem? (i := 49) (by decide +kernel), fun _ h => absurd h List.not_mem_nil⟩⟩⟩⟩, i_c_X7_setCentre⟩)⟩⟩
set_option maxHeartbeats 4000000 in
set_option maxRecDepth 100000 in
theorem c_L_setCentre (l : Launch) (dC : Nat → ClassId) (dI : Nat → Nat → Nat) (e0 : Nat) (hlT : l.stackTraces = false) (h0 : Nat) (p0 : Int32) (ao hd hse hki hma hst hsp hlp htl hj hpr hqd : Nat) (cJ : ClassId) (fo : Nat → Int64) (sz : Nat) : Met l yL_setCentre v_c_L_setCentre ({ frames := 8, cells := 1, slots := 6, locals := 121 }) (fz_P (dC, dI) e0 [(h0, .inr (12, [.ref hd, .ref hse, .ref hki, .ref hma, .ref hst, .ref hsp, .ref hlp, .ref htl, .int 0, .int 0, .int 0, .int 0, .int 0, .int 0, .int 0, .long ((0 : Int32).toInt64)])), (hd, .inr (6, [.ref hj, .ref hpr, .ref hqd, .int 0, .int 0, .int 1])), (ao, .inl (cJ, 1, .inr (.inl fo)))] [(cJ, .long)] sz (va_A [(h0, .inr (12, [.ref hd, .ref hse, .ref hki, .ref hma, .ref hst, .ref hsp, .ref hlp, .ref htl, .int 0, .int 0, .int 0, .int 0, .int 0, .int 0, .int 0, .long ((0 : Int32).toInt64)])), (hd, .inr (6, [.ref hj, .ref hpr, .ref hqd, .int 0, .int 0, .int 1])), (ao, .inl (cJ, 1, .inr (.inl fo)))] sz) [.ref h0, .int p0, .ref ao]) (va_Qi (fun (r : Int32) (u : Int64) => (r = 0 ∧ u = (0 : Int32).toInt64 ∧ fz_in p0 1 99999) ∨ (r = 1 ∧ ¬ fz_in p0 1 99999)) (fun (u : Int64) (t : State) => ∃ fo2 : Nat → Int64, (fo2 0 = u) ∧ va_P (dC, dI) vwCl [(ao, .inl (cJ, 1, .inr (.inl fo2)))] t.heap ∧ va_K (dC, dI) vwCl [(cJ, .long)] t ∧ va_D (va_A [(h0, .inr (12, [.ref hd, .ref hse, .ref hki, .ref hma, .ref hst, .ref hsp, .ref hlp, .ref htl, .int 0, .int 0, .int 0, .int 0, .int 0, .int 0, .int 0, .long ((0 : Int32).toInt64)])), (hd, .inr (6, [.ref hj, .ref hpr, .ref hqd, .int 0, .int 0, .int 1])), (ao, .inl (cJ, 1, .inr (.inl fo)))] sz) [(ao, .inl (cJ, 1, .inr (.inl fo2)))]) (va_A [(h0, .inr (12, [.ref hd, .ref hse, .ref hki, .ref hma, .ref hst, .ref hsp, .ref hlp, .ref htl, .int 0, .int 0, .int 0, .int 0, .int 0, .int 0, .int 0, .long ((0 : Int32).toInt64)])), (hd, .inr (6, [.ref hj, .ref hpr, .ref hqd, .int 0, .int 0, .int 1])), (ao, .inl (cJ, 1, .inr (.inl fo)))] sz)) 1 6 (va_A [(h0, .inr (12, [.ref hd, .ref hse, .ref hki, .ref hma, .ref hst, .ref hsp, .ref hlp, .ref htl, .int 0, .int 0, .int 0, .int 0, .int 0, .int 0, .int 0, .long ((0 : Int32).toInt64)])), (hd, .inr (6, [.ref hj, .ref hpr, .ref hqd, .int 0, .int 0, .int 1])), (ao, .inl (cJ, 1, .inr (.inl fo)))] sz) := by
  refine va_MetW (cc := cL_setCentre) (maxL := 4) (ret := (some .int)) (by decide) rfl ?_
  intro p e s m args below meth c s₁ B hml hv
  obtain ⟨rfl, hsz, hP, hK, hD0, hAm⟩ := hv
  have hx := B.exec
  have hb := B.bytes
  have hr := B.returns
  have hts := atoms_spec (ws := v_c_L_setCentre) B.pre
  have hown : s.vm.findClass RL = some m.cls := findClass_of_methodNamed B.named
  have hlocks := B.notSynchronized
  have htab := vx_table (x := yL_setCentre) B (hts _ List.mem_cons_self)
  subst hsz
  have hD := hD0.self (sz := s.heap.size)
  generalize hAe : va_A [(h0, .inr (12, [.ref hd, .ref hse, .ref hki, .ref hma, .ref hst, .ref hsp, .ref hlp, .ref htl, .int 0, .int 0, .int 0, .int 0, .int 0, .int 0, .int 0, .long ((0 : Int32).toInt64)])), (hd, .inr (6, [.ref hj, .ref hpr, .ref hqd, .int 0, .int 0, .int 1])), (ao, .inl (cJ, 1, .inr (.inl fo)))] s.heap.size = A at hD hAm ⊢
  have hA : ∀ q : Nat, s.heap.size ≤ q → A q := fun q h => by rw [← hAe]; exact Or.inr h
  have hS : va_S A s.heap s.heap [] := va_S.rf
  have hP : va_P (dC, dI) vwCl [(h0, .inr (12, [.ref hd, .ref hse, .ref hki, .ref hma, .ref hst, .ref hsp, .ref hlp, .ref htl, .int 0, .int 0, .int 0, .int 0, .int 0, .int 0, .int 0, .long ((0 : Int32).toInt64)])), (hd, .inr (6, [.ref hj, .ref hpr, .ref hqd, .int 0, .int 0, .int 1])), (ao, .inl (cJ, 1, .inr (.inl fo)))] s.heap := hP
  have hl := lv_entry ([.ref h0, .int p0, .ref ao]) (n := 4) (Nat.le_of_ble_eq_true rfl)
  rw [lg_entry_eq]
  generalize (lg_sl ([.ref h0, .int p0, .ref ao]) ++ List.replicate (4 - (lg_sl ([.ref h0, .int p0, .ref ao])).length) Slot.unset).toArray = ls at hl ⊢
  have hl : lv_has ls 4 [(0, .ref h0), (1, .int p0), (2, .ref ao)] := hl
  refine lv_aload_n hx hb dL_setCentre_0 rfl (lv_at hl 2 rfl) ?_
  refine lv_iconst (v := 0) hx hb dL_setCentre_1 (by decide) ?_
  refine lv_aload_n hx hb dL_setCentre_2 rfl (lv_at hl 0 rfl) ?_
  refine lv_iload_n hx hb dL_setCentre_3 rfl (lv_at hl 1 rfl) ?_
  have hPc := hP.sub (ws' := [(h0, .inr (12, [.ref hd, .ref hse, .ref hki, .ref hma, .ref hst, .ref hsp, .ref hlp, .ref htl, .int 0, .int 0, .int 0, .int 0, .int 0, .int 0, .int 0, .long ((0 : Int32).toInt64)])), (hd, .inr (6, [.ref hj, .ref hpr, .ref hqd, .int 0, .int 0, .int 1]))]) [0, 1] rfl
  have hDc := hD.sub (ws' := [(h0, .inr (12, [.ref hd, .ref hse, .ref hki, .ref hma, .ref hst, .ref hsp, .ref hlp, .ref htl, .int 0, .int 0, .int 0, .int 0, .int 0, .int 0, .int 0, .long ((0 : Int32).toInt64)])), (hd, .inr (6, [.ref hj, .ref hpr, .ref hqd, .int 0, .int 0, .int 1]))]) [0, 1] (by decide) rfl
  have hKc := hK.sub (tys' := []) [] rfl
  have hFc := va_free (wc := [(h0, .inr (12, [.ref hd, .ref hse, .ref hki, .ref hma, .ref hst, .ref hsp, .ref hlp, .ref htl, .int 0, .int 0, .int 0, .int 0, .int 0, .int 0, .int 0, .long ((0 : Int32).toInt64)])), (hd, .inr (6, [.ref hj, .ref hpr, .ref hqd, .int 0, .int 0, .int 1]))]) hD hS hA [0, 1] rfl
  refine vx_calli (vx_runV (As := [.int p0]) (rest := [.int 0, .ref ao]) ⟨hx, hb, hml, hown, hts⟩ (c_X7_setCentre l dC dI e0 hlT h0 p0 hd hse hki hma hst hsp hlp htl hj hpr hqd s.heap.size) (cwV 1 hts (goodIn_sub (fun _ h9 => List.mem_cons_of_mem _ (List.mem_append_right _ (h9))) (by decide +kernel)) rfl rfl rfl (by decide +kernel) ⟨(Nat.le_of_ble_eq_true rfl), (Nat.le_of_ble_eq_true rfl)⟩) ⟨fz_blind, va_recv hKc hPc (ci := 12) (q0 := 0) rfl rfl, fz_pre hPc hKc hDc hAm hS hFc⟩ rfl rfl hl.1 rfl (lv_room (Nat.le_of_ble_eq_true rfl)) dL_setCentre_4 ⟨(Nat.le_of_ble_eq_true rfl), (Nat.le_of_ble_eq_true rfl)⟩) hS (fun q _ h => hFc q h) hFc (fun q _ h => hFc q h) (fun E ce q9 u t H1 locs ht hvm hpx hBX hz1 hk1 hS hce hcv hcl => ?_) (fun r u t H1 locs ht hvm hw hB hz1 hk1 hS => ?_)
  · obtain ⟨rfl, hp_1⟩ := hBX
    obtain ⟨hP, hD⟩ := fz_keepC (WC := [(h0, .inr (12, [.ref hd, .ref hse, .ref hki, .ref hma, .ref hst, .ref hsp, .ref hlp, .ref htl, .int 0, .int 0, .int 0, .int 0, .int 0, .int 0, .int 0, .long ((0 : Int32).toInt64)])), (hd, .inr (6, [.ref hj, .ref hpr, .ref hqd, .int 0, .int 0, .int 1]))]) (WR := [(ao, .inl (cJ, 1, .inr (.inl fo)))]) hP hD [0, 1] [2] rfl rfl (by decide) (by decide) hk1 hFc
    generalize H1 = H at hP hS hce ⊢
    have hP : va_P (dC, dI) vwCl [(ao, .inl (cJ, 1, .inr (.inl fo)))] H := hP
    have hD : va_D A [(ao, .inl (cJ, 1, .inr (.inl fo)))] := hD
    have hK : va_K (dC, dI) vwCl [(cJ, .long)] s := hK
    refine vx_widen (k := 1) (n := 6) (Nat.le_of_ble_eq_true rfl) (Nat.le_of_ble_eq_true rfl) ?_
    refine vx_catch (own := RL) (name := "java/lang/IllegalArgumentException") hown [] ⟨0, 9, 12, 13⟩ [⟨0, 9, 15, 15⟩] htab (fun z hz => nomatch hz) (by decide) (by decide) (hts _ (List.mem_cons_of_mem _ (List.mem_append_left _ (List.mem_of_getElem? (i := 0) rfl)))) (hAm.1.2.1 _ fz_x_IllegalArgument).use hce hcv hcl ?_
    refine W.eq (g2 := F0 m 12 ls [.ref q9]) rfl ?_
    refine lv_astore_n (lv' := [(3, .ref q9), (0, .ref h0), (1, .int p0), (2, .ref ao)]) hx hb dL_setCentre_12 rfl hl (by decide) rfl (fun ls hl => ?_)
    refine lv_iconst (v := 1) hx hb dL_setCentre_13 (by decide) ?_
    have hP9 := hP.sub (ws' := [(ao, .inl (cJ, 1, .inr (.inl fo)))]) [0] rfl
    have hD9 := hD.sub (ws' := [(ao, .inl (cJ, 1, .inr (.inl fo)))]) [0] (by decide) rfl
    have hK9 := hK.sub (tys' := [(cJ, .long)]) [0] rfl
    refine W.widen (k := 1) (n := 6) (Nat.le_of_ble_eq_true rfl) (Nat.le_of_ble_eq_true rfl) ?_
    exact W.iret (v := 1) hx hb hr (fun t ht hW => ⟨⟨1, (fo 0), rfl, Or.inr (⟨rfl, hp_1⟩), ⟨fo, (by first | rfl | simp [vp_updL]), by rw [ht]; exact hP9, va_K.moved hW.alike hK9, hD9⟩⟩, hS.F ht⟩) hS.2.2 dL_setCentre_14
  · obtain ⟨rfl, hp_2⟩ := hw
    obtain ⟨hP, hD⟩ := fz_keepC (WC := [(h0, .inr (12, [.ref hd, .ref hse, .ref hki, .ref hma, .ref hst, .ref hsp, .ref hlp, .ref htl, .int 0, .int 0, .int 0, .int 0, .int 0, .int 0, .int 0, .long ((0 : Int32).toInt64)])), (hd, .inr (6, [.ref hj, .ref hpr, .ref hqd, .int 0, .int 0, .int 1]))]) (WR := [(ao, .inl (cJ, 1, .inr (.inl fo)))]) hP hD [0, 1] [2] rfl rfl (by decide) (by decide) hk1 hFc
    generalize H1 = H at hP hS ⊢
    have hP : va_P (dC, dI) vwCl [(ao, .inl (cJ, 1, .inr (.inl fo)))] H := hP
    have hD : va_D A [(ao, .inl (cJ, 1, .inr (.inl fo)))] := hD
    have hK : va_K (dC, dI) vwCl [(cJ, .long)] s := hK
    refine W.widen (k := 1) (n := 6) (Nat.le_of_ble_eq_true rfl) (Nat.le_of_ble_eq_true rfl) ?_
    refine lv_i2l (v := (0 : Int32).toInt64) hx hb dL_setCentre_7 rfl ?_
    refine va_last hx hb hK hP hD hS 0 0 rfl rfl (fz_il (by decide)) dL_setCentre_8 (fun H locs hP hD hS => ?_)
    have hP : va_P (dC, dI) vwCl [(ao, .inl (cJ, 1, .inr (.inl (vp_updL fo (0 : Int32).toNatClampNeg ((0 : Int32).toInt64)))))] H := hP
    have hD : va_D A [(ao, .inl (cJ, 1, .inr (.inl (vp_updL fo (0 : Int32).toNatClampNeg ((0 : Int32).toInt64)))))] := hD
    refine lv_goto (tgt := 18) hx hb dL_setCentre_9 (by decide) ?_
    refine lv_iconst (v := 0) hx hb dL_setCentre_18 (by decide) ?_
    have hP9 := hP.sub (ws' := [(ao, .inl (cJ, 1, .inr (.inl (vp_updL fo (0 : Int32).toNatClampNeg ((0 : Int32).toInt64)))))]) [0] rfl
    have hD9 := hD.sub (ws' := [(ao, .inl (cJ, 1, .inr (.inl (vp_updL fo (0 : Int32).toNatClampNeg ((0 : Int32).toInt64)))))]) [0] (by decide) rfl
    have hK9 := hK.sub (tys' := [(cJ, .long)]) [0] rfl
    refine W.widen (k := 1) (n := 6) (Nat.le_of_ble_eq_true rfl) (Nat.le_of_ble_eq_true rfl) ?_
    exact W.iret (v := 0) hx hb hr (fun t ht hW => ⟨⟨0, ((0 : Int32).toInt64), rfl, Or.inl (⟨rfl, rfl, hp_2⟩), ⟨(vp_updL fo (0 : Int32).toNatClampNeg ((0 : Int32).toInt64)), (by first | rfl | simp [vp_updL]), by rw [ht]; exact hP9, va_K.moved hW.alike hK9, hD9⟩⟩, hS.F ht⟩) hS.2.2 dL_setCentre_19
def v_c_L_strike : List Cond := .codeWith yL_strike cL_strike 3 (some .int) [(0, 7, 10, 15), (0, 7, 13, 17)] :: ([.classLink RL 15 "java/lang/UnsupportedOperationException"] ++ (wsV RL 93 RX7 yX7_strike v_c_X7_strike))
set_option maxRecDepth 20000 in
theorem i_c_L_strike : ∀ w ∈ v_c_L_strike, w ∈ lw_tbl := List.forall_mem_cons.mpr ⟨List.mem_of_getElem? (i := 1229) (by decide +kernel), List.forall_mem_append.mpr ⟨List.forall_mem_cons.mpr ⟨List.mem_of_getElem? (i := 428) (by decide +kernel), fun _ h => absurd h List.not_mem_nil⟩, (by unfold wsV; exact List.forall_mem_append.mpr ⟨List.forall_mem_cons.mpr ⟨List.mem_of_getElem? (i := 1230) (by decide +kernel), List.forall_mem_cons.mpr ⟨List.mem_of_getElem? (i := 1231) (by decide +kernel), List.forall_mem_cons.mpr ⟨List.mem_of_getElem? (i := 1232) (by decide +kernel), List.forall_mem_cons.mpr ⟨List.mem_of_getElem? (i := 49) (by decide +kernel), fun _ h => absurd h List.not_mem_nil⟩⟩⟩⟩, i_c_X7_strike⟩)⟩⟩
set_option maxHeartbeats 4000000 in
set_option maxRecDepth 100000 in
theorem c_L_strike (l : Launch) (dC : Nat → ClassId) (dI : Nat → Nat → Nat) (e0 : Nat) (hlT : l.stackTraces = false) (h0 ao hd hse hki hma hst hsp hlp htl : Nat) (cJ : ClassId) (fo : Nat → Int64) (sz : Nat) : Met l yL_strike v_c_L_strike ({ frames := 8, cells := 1, slots := 6, locals := 122 }) (fz_P (dC, dI) e0 [(h0, .inr (12, [.ref hd, .ref hse, .ref hki, .ref hma, .ref hst, .ref hsp, .ref hlp, .ref htl, .int 0, .int 0, .int 0, .int 0, .int 0, .int 0, .int 0, .long ((0 : Int32).toInt64)])), (ao, .inl (cJ, 1, .inr (.inl fo)))] [(cJ, .long)] sz (va_A [(h0, .inr (12, [.ref hd, .ref hse, .ref hki, .ref hma, .ref hst, .ref hsp, .ref hlp, .ref htl, .int 0, .int 0, .int 0, .int 0, .int 0, .int 0, .int 0, .long ((0 : Int32).toInt64)])), (ao, .inl (cJ, 1, .inr (.inl fo)))] sz) [.ref h0, .ref ao]) (va_Qi (fun (r : Int32) (u : Int64) => r = 1) (fun (u : Int64) (t : State) => ∃ fo2 : Nat → Int64, (fo2 0 = u) ∧ va_P (dC, dI) vwCl [(ao, .inl (cJ, 1, .inr (.inl fo2)))] t.heap ∧ va_K (dC, dI) vwCl [(cJ, .long)] t ∧ va_D (va_A [(h0, .inr (12, [.ref hd, .ref hse, .ref hki, .ref hma, .ref hst, .ref hsp, .ref hlp, .ref htl, .int 0, .int 0, .int 0, .int 0, .int 0, .int 0, .int 0, .long ((0 : Int32).toInt64)])), (ao, .inl (cJ, 1, .inr (.inl fo)))] sz) [(ao, .inl (cJ, 1, .inr (.inl fo2)))]) (va_A [(h0, .inr (12, [.ref hd, .ref hse, .ref hki, .ref hma, .ref hst, .ref hsp, .ref hlp, .ref htl, .int 0, .int 0, .int 0, .int 0, .int 0, .int 0, .int 0, .long ((0 : Int32).toInt64)])), (ao, .inl (cJ, 1, .inr (.inl fo)))] sz)) 1 6 (va_A [(h0, .inr (12, [.ref hd, .ref hse, .ref hki, .ref hma, .ref hst, .ref hsp, .ref hlp, .ref htl, .int 0, .int 0, .int 0, .int 0, .int 0, .int 0, .int 0, .long ((0 : Int32).toInt64)])), (ao, .inl (cJ, 1, .inr (.inl fo)))] sz) := by
  refine va_MetW (cc := cL_strike) (maxL := 3) (ret := (some .int)) (by decide) rfl ?_
  intro p e s m args below meth c s₁ B hml hv
  obtain ⟨rfl, hsz, hP, hK, hD0, hAm⟩ := hv
  have hx := B.exec
  have hb := B.bytes
  have hr := B.returns
  have hts := atoms_spec (ws := v_c_L_strike) B.pre
  have hown : s.vm.findClass RL = some m.cls := findClass_of_methodNamed B.named
  have hlocks := B.notSynchronized
  have htab := vx_table (x := yL_strike) B (hts _ List.mem_cons_self)
  subst hsz
  have hD := hD0.self (sz := s.heap.size)
  generalize hAe : va_A [(h0, .inr (12, [.ref hd, .ref hse, .ref hki, .ref hma, .ref hst, .ref hsp, .ref hlp, .ref htl, .int 0, .int 0, .int 0, .int 0, .int 0, .int 0, .int 0, .long ((0 : Int32).toInt64)])), (ao, .inl (cJ, 1, .inr (.inl fo)))] s.heap.size = A at hD hAm ⊢
  have hA : ∀ q : Nat, s.heap.size ≤ q → A q := fun q h => by rw [← hAe]; exact Or.inr h
  have hS : va_S A s.heap s.heap [] := va_S.rf
  have hP : va_P (dC, dI) vwCl [(h0, .inr (12, [.ref hd, .ref hse, .ref hki, .ref hma, .ref hst, .ref hsp, .ref hlp, .ref htl, .int 0, .int 0, .int 0, .int 0, .int 0, .int 0, .int 0, .long ((0 : Int32).toInt64)])), (ao, .inl (cJ, 1, .inr (.inl fo)))] s.heap := hP
  have hl := lv_entry ([.ref h0, .ref ao]) (n := 3) (Nat.le_of_ble_eq_true rfl)
  rw [lg_entry_eq]
  generalize (lg_sl ([.ref h0, .ref ao]) ++ List.replicate (3 - (lg_sl ([.ref h0, .ref ao])).length) Slot.unset).toArray = ls at hl ⊢
  have hl : lv_has ls 3 [(0, .ref h0), (1, .ref ao)] := hl
  refine lv_aload_n hx hb dL_strike_0 rfl (lv_at hl 1 rfl) ?_
  refine lv_iconst (v := 0) hx hb dL_strike_1 (by decide) ?_
  refine lv_aload_n hx hb dL_strike_2 rfl (lv_at hl 0 rfl) ?_
  have hPc := hP.sub (ws' := [(h0, .inr (12, [.ref hd, .ref hse, .ref hki, .ref hma, .ref hst, .ref hsp, .ref hlp, .ref htl, .int 0, .int 0, .int 0, .int 0, .int 0, .int 0, .int 0, .long ((0 : Int32).toInt64)]))]) [0] rfl
  have hDc := hD.sub (ws' := [(h0, .inr (12, [.ref hd, .ref hse, .ref hki, .ref hma, .ref hst, .ref hsp, .ref hlp, .ref htl, .int 0, .int 0, .int 0, .int 0, .int 0, .int 0, .int 0, .long ((0 : Int32).toInt64)]))]) [0] (by decide) rfl
  have hKc := hK.sub (tys' := []) [] rfl
  have hFc : ∀ q : Nat, s.heap.size ≤ q → A q := fun q h => hA q (Nat.le_trans hS.1 h)
  refine vx_calll (vx_runV (As := []) (rest := [.int 0, .ref ao]) ⟨hx, hb, hml, hown, hts⟩ (c_X7_strike l dC dI e0 hlT h0 hd hse hki hma hst hsp hlp htl s.heap.size) (cwV 0 hts (goodIn_sub (fun _ h9 => List.mem_cons_of_mem _ (List.mem_append_right _ (h9))) (by decide +kernel)) rfl rfl rfl (by decide +kernel) ⟨(Nat.le_of_ble_eq_true rfl), (Nat.le_of_ble_eq_true rfl)⟩) ⟨fz_blind, va_recv hKc hPc (ci := 12) (q0 := 0) rfl rfl, fz_pre hPc hKc hDc hAm hS hFc⟩ rfl rfl hl.1 rfl (lv_room (Nat.le_of_ble_eq_true rfl)) dL_strike_3 ⟨(Nat.le_of_ble_eq_true rfl), (Nat.le_of_ble_eq_true rfl)⟩) hS (fun q _ h => hFc q h) hFc (fun q _ h => hFc q h) (fun E ce q9 u t H1 locs ht hvm hpx hBX hz1 hk1 hS hce hcv hcl => ?_) (fun r u t H1 locs ht hvm hw hB hz1 hk1 hS => ?_)
  · obtain rfl := hBX
    have hP := fz_keep hP hk1
    generalize H1 = H at hP hS hce ⊢
    have hP : va_P (dC, dI) vwCl [(h0, .inr (12, [.ref hd, .ref hse, .ref hki, .ref hma, .ref hst, .ref hsp, .ref hlp, .ref htl, .int 0, .int 0, .int 0, .int 0, .int 0, .int 0, .int 0, .long ((0 : Int32).toInt64)])), (ao, .inl (cJ, 1, .inr (.inl fo)))] H := hP
    have hD : va_D A [(h0, .inr (12, [.ref hd, .ref hse, .ref hki, .ref hma, .ref hst, .ref hsp, .ref hlp, .ref htl, .int 0, .int 0, .int 0, .int 0, .int 0, .int 0, .int 0, .long ((0 : Int32).toInt64)])), (ao, .inl (cJ, 1, .inr (.inl fo)))] := hD
    refine vx_widen (k := 1) (n := 6) (Nat.le_of_ble_eq_true rfl) (Nat.le_of_ble_eq_true rfl) ?_
    refine vx_catch (own := RL) (name := "java/lang/UnsupportedOperationException") hown [] ⟨0, 7, 10, 15⟩ [⟨0, 7, 13, 17⟩] htab (fun z hz => nomatch hz) (by decide) (by decide) (hts _ (List.mem_cons_of_mem _ (List.mem_append_left _ (List.mem_of_getElem? (i := 0) rfl)))) (hAm.1.2.1 _ fz_x_UnsupportedOperation).use hce hcv hcl ?_
    refine W.eq (g2 := F0 m 10 ls [.ref q9]) rfl ?_
    refine lv_astore_n (lv' := [(2, .ref q9), (0, .ref h0), (1, .ref ao)]) hx hb dL_strike_10 rfl hl (by decide) rfl (fun ls hl => ?_)
    refine lv_iconst (v := 1) hx hb dL_strike_11 (by decide) ?_
    have hP9 := hP.sub (ws' := [(ao, .inl (cJ, 1, .inr (.inl fo)))]) [1] rfl
    have hD9 := hD.sub (ws' := [(ao, .inl (cJ, 1, .inr (.inl fo)))]) [1] (by decide) rfl
    have hK9 := hK.sub (tys' := [(cJ, .long)]) [0] rfl
    refine W.widen (k := 1) (n := 6) (Nat.le_of_ble_eq_true rfl) (Nat.le_of_ble_eq_true rfl) ?_
    exact W.iret (v := 1) hx hb hr (fun t ht hW => ⟨⟨1, (fo 0), rfl, rfl, ⟨fo, (by first | rfl | simp [vp_updL]), by rw [ht]; exact hP9, va_K.moved hW.alike hK9, hD9⟩⟩, hS.F ht⟩) hS.2.2 dL_strike_12
  · exact hw.elim
def v_c_L_pass : List Cond := .codeWith yL_pass cL_pass 4 (some .int) [(0, 9, 12, 13)] :: ([.classLink RL 13 "java/lang/IllegalArgumentException"] ++ (wsV RL 100 RX7 yX7_pass v_c_X7_pass))
set_option maxRecDepth 20000 in
theorem i_c_L_pass : ∀ w ∈ v_c_L_pass, w ∈ lw_tbl := List.forall_mem_cons.mpr ⟨List.mem_of_getElem? (i := 1251) (by decide +kernel), List.forall_mem_append.mpr ⟨List.forall_mem_cons.mpr ⟨List.mem_of_getElem? (i := 427) (by decide +kernel), fun _ h => absurd h List.not_mem_nil⟩, (by unfold wsV; exact List.forall_mem_append.mpr ⟨List.forall_mem_cons.mpr ⟨List.mem_of_getElem? (i := 1252) (by decide +kernel), List.forall_mem_cons.mpr ⟨List.mem_of_getElem? (i := 1253) (by decide +kernel), List.forall_mem_cons.mpr ⟨List.mem_of_getElem? (i := 1254) (by decide +kernel), List.forall_mem_cons.mpr ⟨List.mem_of_getElem? (i := 49) (by decide +kernel), fun _ h => absurd h List.not_mem_nil⟩⟩⟩⟩, i_c_X7_pass⟩)⟩⟩
set_option maxHeartbeats 4000000 in
set_option maxRecDepth 100000 in
theorem c_L_pass (l : Launch) (dC : Nat → ClassId) (dI : Nat → Nat → Nat) (e0 : Nat) (hlT : l.stackTraces = false) (h0 : Nat) (p0 : Int32) (ao hd hse hki hma hst hsp hlp htl : Nat) (cJ : ClassId) (fo : Nat → Int64) (sz : Nat) : Met l yL_pass v_c_L_pass ({ frames := 8, cells := 1, slots := 6, locals := 121 }) (fz_P (dC, dI) e0 [(h0, .inr (12, [.ref hd, .ref hse, .ref hki, .ref hma, .ref hst, .ref hsp, .ref hlp, .ref htl, .int 0, .int 0, .int 0, .int 0, .int 0, .int 0, .int 0, .long ((0 : Int32).toInt64)])), (ao, .inl (cJ, 1, .inr (.inl fo)))] [(cJ, .long)] sz (va_A [(h0, .inr (12, [.ref hd, .ref hse, .ref hki, .ref hma, .ref hst, .ref hsp, .ref hlp, .ref htl, .int 0, .int 0, .int 0, .int 0, .int 0, .int 0, .int 0, .long ((0 : Int32).toInt64)])), (ao, .inl (cJ, 1, .inr (.inl fo)))] sz) [.ref h0, .int p0, .ref ao]) (va_Qi (fun (r : Int32) (u : Int64) => (r = 0 ∧ u = (0 + p0).toInt64 ∧ fz_in p0 1 99) ∨ (r = 1 ∧ ¬ fz_in p0 1 99)) (fun (u : Int64) (t : State) => ∃ fo2 : Nat → Int64, (fo2 0 = u) ∧ va_P (dC, dI) vwCl [(ao, .inl (cJ, 1, .inr (.inl fo2)))] t.heap ∧ va_K (dC, dI) vwCl [(cJ, .long)] t ∧ va_D (va_A [(h0, .inr (12, [.ref hd, .ref hse, .ref hki, .ref hma, .ref hst, .ref hsp, .ref hlp, .ref htl, .int 0, .int 0, .int 0, .int 0, .int 0, .int 0, .int 0, .long ((0 : Int32).toInt64)])), (ao, .inl (cJ, 1, .inr (.inl fo)))] sz) [(ao, .inl (cJ, 1, .inr (.inl fo2)))]) (va_A [(h0, .inr (12, [.ref hd, .ref hse, .ref hki, .ref hma, .ref hst, .ref hsp, .ref hlp, .ref htl, .int 0, .int 0, .int 0, .int 0, .int 0, .int 0, .int 0, .long ((0 : Int32).toInt64)])), (ao, .inl (cJ, 1, .inr (.inl fo)))] sz)) 1 6 (va_A [(h0, .inr (12, [.ref hd, .ref hse, .ref hki, .ref hma, .ref hst, .ref hsp, .ref hlp, .ref htl, .int 0, .int 0, .int 0, .int 0, .int 0, .int 0, .int 0, .long ((0 : Int32).toInt64)])), (ao, .inl (cJ, 1, .inr (.inl fo)))] sz) := by
  refine va_MetW (cc := cL_pass) (maxL := 4) (ret := (some .int)) (by decide) rfl ?_
  intro p e s m args below meth c s₁ B hml hv
  obtain ⟨rfl, hsz, hP, hK, hD0, hAm⟩ := hv
  have hx := B.exec
  have hb := B.bytes
  have hr := B.returns
  have hts := atoms_spec (ws := v_c_L_pass) B.pre
  have hown : s.vm.findClass RL = some m.cls := findClass_of_methodNamed B.named
  have hlocks := B.notSynchronized
  have htab := vx_table (x := yL_pass) B (hts _ List.mem_cons_self)
  subst hsz
  have hD := hD0.self (sz := s.heap.size)
  generalize hAe : va_A [(h0, .inr (12, [.ref hd, .ref hse, .ref hki, .ref hma, .ref hst, .ref hsp, .ref hlp, .ref htl, .int 0, .int 0, .int 0, .int 0, .int 0, .int 0, .int 0, .long ((0 : Int32).toInt64)])), (ao, .inl (cJ, 1, .inr (.inl fo)))] s.heap.size = A at hD hAm ⊢
  have hA : ∀ q : Nat, s.heap.size ≤ q → A q := fun q h => by rw [← hAe]; exact Or.inr h
  have hS : va_S A s.heap s.heap [] := va_S.rf
  have hP : va_P (dC, dI) vwCl [(h0, .inr (12, [.ref hd, .ref hse, .ref hki, .ref hma, .ref hst, .ref hsp, .ref hlp, .ref htl, .int 0, .int 0, .int 0, .int 0, .int 0, .int 0, .int 0, .long ((0 : Int32).toInt64)])), (ao, .inl (cJ, 1, .inr (.inl fo)))] s.heap := hP
  have hl := lv_entry ([.ref h0, .int p0, .ref ao]) (n := 4) (Nat.le_of_ble_eq_true rfl)
  rw [lg_entry_eq]
  generalize (lg_sl ([.ref h0, .int p0, .ref ao]) ++ List.replicate (4 - (lg_sl ([.ref h0, .int p0, .ref ao])).length) Slot.unset).toArray = ls at hl ⊢
  have hl : lv_has ls 4 [(0, .ref h0), (1, .int p0), (2, .ref ao)] := hl
  refine lv_aload_n hx hb dL_pass_0 rfl (lv_at hl 2 rfl) ?_
  refine lv_iconst (v := 0) hx hb dL_pass_1 (by decide) ?_
  refine lv_aload_n hx hb dL_pass_2 rfl (lv_at hl 0 rfl) ?_
  refine lv_iload_n hx hb dL_pass_3 rfl (lv_at hl 1 rfl) ?_
  have hPc := hP.sub (ws' := [(h0, .inr (12, [.ref hd, .ref hse, .ref hki, .ref hma, .ref hst, .ref hsp, .ref hlp, .ref htl, .int 0, .int 0, .int 0, .int 0, .int 0, .int 0, .int 0, .long ((0 : Int32).toInt64)]))]) [0] rfl
  have hDc := hD.sub (ws' := [(h0, .inr (12, [.ref hd, .ref hse, .ref hki, .ref hma, .ref hst, .ref hsp, .ref hlp, .ref htl, .int 0, .int 0, .int 0, .int 0, .int 0, .int 0, .int 0, .long ((0 : Int32).toInt64)]))]) [0] (by decide) rfl
  have hKc := hK.sub (tys' := []) [] rfl
  have hFc := va_free (wc := [(h0, .inr (12, [.ref hd, .ref hse, .ref hki, .ref hma, .ref hst, .ref hsp, .ref hlp, .ref htl, .int 0, .int 0, .int 0, .int 0, .int 0, .int 0, .int 0, .long ((0 : Int32).toInt64)]))]) hD hS hA [0] rfl
  refine vx_calli (vx_runV (As := [.int p0]) (rest := [.int 0, .ref ao]) ⟨hx, hb, hml, hown, hts⟩ (c_X7_pass l dC dI e0 hlT h0 p0 hd hse hki hma hst hsp hlp htl s.heap.size) (cwV 1 hts (goodIn_sub (fun _ h9 => List.mem_cons_of_mem _ (List.mem_append_right _ (h9))) (by decide +kernel)) rfl rfl rfl (by decide +kernel) ⟨(Nat.le_of_ble_eq_true rfl), (Nat.le_of_ble_eq_true rfl)⟩) ⟨fz_blind, va_recv hKc hPc (ci := 12) (q0 := 0) rfl rfl, fz_pre hPc hKc hDc hAm hS hFc⟩ rfl rfl hl.1 rfl (lv_room (Nat.le_of_ble_eq_true rfl)) dL_pass_4 ⟨(Nat.le_of_ble_eq_true rfl), (Nat.le_of_ble_eq_true rfl)⟩) hS (fun q _ h => hFc q h) hFc (fun q _ h => hFc q h) (fun E ce q9 u t H1 locs ht hvm hpx hBX hz1 hk1 hS hce hcv hcl => ?_) (fun r u t H1 locs ht hvm hw hB hz1 hk1 hS => ?_)
  · obtain ⟨rfl, hp_1⟩ := hBX
    obtain ⟨hP, hD⟩ := fz_keepC (WC := [(h0, .inr (12, [.ref hd, .ref hse, .ref hki, .ref hma, .ref hst, .ref hsp, .ref hlp, .ref htl, .int 0, .int 0, .int 0, .int 0, .int 0, .int 0, .int 0, .long ((0 : Int32).toInt64)]))]) (WR := [(ao, .inl (cJ, 1, .inr (.inl fo)))]) hP hD [0] [1] rfl rfl (by decide) (by decide) hk1 hFc
    generalize H1 = H at hP hS hce ⊢
    have hP : va_P (dC, dI) vwCl [(ao, .inl (cJ, 1, .inr (.inl fo)))] H := hP
    have hD : va_D A [(ao, .inl (cJ, 1, .inr (.inl fo)))] := hD
    have hK : va_K (dC, dI) vwCl [(cJ, .long)] s := hK
    refine vx_widen (k := 1) (n := 6) (Nat.le_of_ble_eq_true rfl) (Nat.le_of_ble_eq_true rfl) ?_
    refine vx_catch (own := RL) (name := "java/lang/IllegalArgumentException") hown [] ⟨0, 9, 12, 13⟩ [] htab (fun z hz => nomatch hz) (by decide) (by decide) (hts _ (List.mem_cons_of_mem _ (List.mem_append_left _ (List.mem_of_getElem? (i := 0) rfl)))) (hAm.1.2.1 _ fz_x_IllegalArgument).use hce hcv hcl ?_
    refine W.eq (g2 := F0 m 12 ls [.ref q9]) rfl ?_
    refine lv_astore_n (lv' := [(3, .ref q9), (0, .ref h0), (1, .int p0), (2, .ref ao)]) hx hb dL_pass_12 rfl hl (by decide) rfl (fun ls hl => ?_)
    refine lv_iconst (v := 1) hx hb dL_pass_13 (by decide) ?_
    have hP9 := hP.sub (ws' := [(ao, .inl (cJ, 1, .inr (.inl fo)))]) [0] rfl
    have hD9 := hD.sub (ws' := [(ao, .inl (cJ, 1, .inr (.inl fo)))]) [0] (by decide) rfl
    have hK9 := hK.sub (tys' := [(cJ, .long)]) [0] rfl
    refine W.widen (k := 1) (n := 6) (Nat.le_of_ble_eq_true rfl) (Nat.le_of_ble_eq_true rfl) ?_
    exact W.iret (v := 1) hx hb hr (fun t ht hW => ⟨⟨1, (fo 0), rfl, Or.inr (⟨rfl, hp_1⟩), ⟨fo, (by first | rfl | simp [vp_updL]), by rw [ht]; exact hP9, va_K.moved hW.alike hK9, hD9⟩⟩, hS.F ht⟩) hS.2.2 dL_pass_14
  · obtain ⟨rfl, hp_2⟩ := hw
    obtain ⟨hP, hD⟩ := fz_keepC (WC := [(h0, .inr (12, [.ref hd, .ref hse, .ref hki, .ref hma, .ref hst, .ref hsp, .ref hlp, .ref htl, .int 0, .int 0, .int 0, .int 0, .int 0, .int 0, .int 0, .long ((0 : Int32).toInt64)]))]) (WR := [(ao, .inl (cJ, 1, .inr (.inl fo)))]) hP hD [0] [1] rfl rfl (by decide) (by decide) hk1 hFc
    generalize H1 = H at hP hS ⊢
    have hP : va_P (dC, dI) vwCl [(ao, .inl (cJ, 1, .inr (.inl fo)))] H := hP
    have hD : va_D A [(ao, .inl (cJ, 1, .inr (.inl fo)))] := hD
    have hK : va_K (dC, dI) vwCl [(cJ, .long)] s := hK
    refine W.widen (k := 1) (n := 6) (Nat.le_of_ble_eq_true rfl) (Nat.le_of_ble_eq_true rfl) ?_
    refine lv_i2l (v := (0 + p0).toInt64) hx hb dL_pass_7 rfl ?_
    refine va_last hx hb hK hP hD hS 0 0 rfl rfl (fz_il (by decide)) dL_pass_8 (fun H locs hP hD hS => ?_)
    have hP : va_P (dC, dI) vwCl [(ao, .inl (cJ, 1, .inr (.inl (vp_updL fo (0 : Int32).toNatClampNeg ((0 + p0).toInt64)))))] H := hP
    have hD : va_D A [(ao, .inl (cJ, 1, .inr (.inl (vp_updL fo (0 : Int32).toNatClampNeg ((0 + p0).toInt64)))))] := hD
    refine lv_goto (tgt := 15) hx hb dL_pass_9 (by decide) ?_
    refine lv_iconst (v := 0) hx hb dL_pass_15 (by decide) ?_
    have hP9 := hP.sub (ws' := [(ao, .inl (cJ, 1, .inr (.inl (vp_updL fo (0 : Int32).toNatClampNeg ((0 + p0).toInt64)))))]) [0] rfl
    have hD9 := hD.sub (ws' := [(ao, .inl (cJ, 1, .inr (.inl (vp_updL fo (0 : Int32).toNatClampNeg ((0 + p0).toInt64)))))]) [0] (by decide) rfl
    have hK9 := hK.sub (tys' := [(cJ, .long)]) [0] rfl
    refine W.widen (k := 1) (n := 6) (Nat.le_of_ble_eq_true rfl) (Nat.le_of_ble_eq_true rfl) ?_
    exact W.iret (v := 0) hx hb hr (fun t ht hW => ⟨⟨0, ((0 + p0).toInt64), rfl, Or.inl (⟨rfl, rfl, hp_2⟩), ⟨(vp_updL fo (0 : Int32).toNatClampNeg ((0 + p0).toInt64)), (by first | rfl | simp [vp_updL]), by rw [ht]; exact hP9, va_K.moved hW.alike hK9, hD9⟩⟩, hS.F ht⟩) hS.2.2 dL_pass_16
def v_c_L_usedShare : List Cond := .codeWith yL_usedShare cL_usedShare 3 (some .int) [(0, 8, 11, 107)] :: ([.classLink RL 107 "java/lang/ArithmeticException"] ++ (wsV RL 103 RX7 yX7_usedShare v_c_X7_usedShare))
set_option maxRecDepth 20000 in
theorem i_c_L_usedShare : ∀ w ∈ v_c_L_usedShare, w ∈ lw_tbl := List.forall_mem_cons.mpr ⟨List.mem_of_getElem? (i := 1259) (by decide +kernel), List.forall_mem_append.mpr ⟨List.forall_mem_cons.mpr ⟨List.mem_of_getElem? (i := 1260) (by decide +kernel), fun _ h => absurd h List.not_mem_nil⟩, (by unfold wsV; exact List.forall_mem_append.mpr ⟨List.forall_mem_cons.mpr ⟨List.mem_of_getElem? (i := 1274) (by decide +kernel), List.forall_mem_cons.mpr ⟨List.mem_of_getElem? (i := 1275) (by decide +kernel), List.forall_mem_cons.mpr ⟨List.mem_of_getElem? (i := 1276) (by decide +kernel), List.forall_mem_cons.mpr ⟨List.mem_of_getElem? (i := 49) (by decide +kernel), fun _ h => absurd h List.not_mem_nil⟩⟩⟩⟩, i_c_X7_usedShare⟩)⟩⟩
set_option maxHeartbeats 4000000 in
set_option maxRecDepth 100000 in
theorem c_L_usedShare (l : Launch) (dC : Nat → ClassId) (dI : Nat → Nat → Nat) (e0 : Nat) (hlT : l.stackTraces = false) (h0 ao hd hse hki hma hst hsp hlp htl : Nat) (cD : ClassId) (fo : Nat → UInt64) (sz : Nat) : Met l yL_usedShare v_c_L_usedShare ({ frames := 8, cells := 1, slots := 6, locals := 121 }) (fz_P (dC, dI) e0 [(h0, .inr (12, [.ref hd, .ref hse, .ref hki, .ref hma, .ref hst, .ref hsp, .ref hlp, .ref htl, .int 0, .int 0, .int 0, .int 0, .int 0, .int 0, .int 0, .long ((0 : Int32).toInt64)])), (ao, .inl (cD, 1, .inr (.inr (.inr (.inl fo)))))] [(cD, .double)] sz (va_A [(h0, .inr (12, [.ref hd, .ref hse, .ref hki, .ref hma, .ref hst, .ref hsp, .ref hlp, .ref htl, .int 0, .int 0, .int 0, .int 0, .int 0, .int 0, .int 0, .long ((0 : Int32).toInt64)])), (ao, .inl (cD, 1, .inr (.inr (.inr (.inl fo)))))] sz) [.ref h0, .ref ao]) (va_Qi (fun (r : Int32) (u : Unit) => r = 1) (fun (u : Unit) (t : State) => va_P (dC, dI) vwCl [(ao, .inl (cD, 1, .inr (.inr (.inr (.inl fo)))))] t.heap ∧ va_K (dC, dI) vwCl [(cD, .double)] t ∧ va_D (va_A [(h0, .inr (12, [.ref hd, .ref hse, .ref hki, .ref hma, .ref hst, .ref hsp, .ref hlp, .ref htl, .int 0, .int 0, .int 0, .int 0, .int 0, .int 0, .int 0, .long ((0 : Int32).toInt64)])), (ao, .inl (cD, 1, .inr (.inr (.inr (.inl fo)))))] sz) [(ao, .inl (cD, 1, .inr (.inr (.inr (.inl fo)))))]) (va_A [(h0, .inr (12, [.ref hd, .ref hse, .ref hki, .ref hma, .ref hst, .ref hsp, .ref hlp, .ref htl, .int 0, .int 0, .int 0, .int 0, .int 0, .int 0, .int 0, .long ((0 : Int32).toInt64)])), (ao, .inl (cD, 1, .inr (.inr (.inr (.inl fo)))))] sz)) 1 6 (va_A [(h0, .inr (12, [.ref hd, .ref hse, .ref hki, .ref hma, .ref hst, .ref hsp, .ref hlp, .ref htl, .int 0, .int 0, .int 0, .int 0, .int 0, .int 0, .int 0, .long ((0 : Int32).toInt64)])), (ao, .inl (cD, 1, .inr (.inr (.inr (.inl fo)))))] sz) := by
  refine va_MetW (cc := cL_usedShare) (maxL := 3) (ret := (some .int)) (by decide) rfl ?_
  intro p e s m args below meth c s₁ B hml hv
  obtain ⟨rfl, hsz, hP, hK, hD0, hAm⟩ := hv
  have hx := B.exec
  have hb := B.bytes
  have hr := B.returns
  have hts := atoms_spec (ws := v_c_L_usedShare) B.pre
  have hown : s.vm.findClass RL = some m.cls := findClass_of_methodNamed B.named
  have hlocks := B.notSynchronized
  have htab := vx_table (x := yL_usedShare) B (hts _ List.mem_cons_self)
  subst hsz
  have hD := hD0.self (sz := s.heap.size)
  generalize hAe : va_A [(h0, .inr (12, [.ref hd, .ref hse, .ref hki, .ref hma, .ref hst, .ref hsp, .ref hlp, .ref htl, .int 0, .int 0, .int 0, .int 0, .int 0, .int 0, .int 0, .long ((0 : Int32).toInt64)])), (ao, .inl (cD, 1, .inr (.inr (.inr (.inl fo)))))] s.heap.size = A at hD hAm ⊢
  have hA : ∀ q : Nat, s.heap.size ≤ q → A q := fun q h => by rw [← hAe]; exact Or.inr h
  have hS : va_S A s.heap s.heap [] := va_S.rf
  have hP : va_P (dC, dI) vwCl [(h0, .inr (12, [.ref hd, .ref hse, .ref hki, .ref hma, .ref hst, .ref hsp, .ref hlp, .ref htl, .int 0, .int 0, .int 0, .int 0, .int 0, .int 0, .int 0, .long ((0 : Int32).toInt64)])), (ao, .inl (cD, 1, .inr (.inr (.inr (.inl fo)))))] s.heap := hP
  have hl := lv_entry ([.ref h0, .ref ao]) (n := 3) (Nat.le_of_ble_eq_true rfl)
  rw [lg_entry_eq]
  generalize (lg_sl ([.ref h0, .ref ao]) ++ List.replicate (3 - (lg_sl ([.ref h0, .ref ao])).length) Slot.unset).toArray = ls at hl ⊢
  have hl : lv_has ls 3 [(0, .ref h0), (1, .ref ao)] := hl
  refine lv_aload_n hx hb dL_usedShare_0 rfl (lv_at hl 1 rfl) ?_
  refine lv_iconst (v := 0) hx hb dL_usedShare_1 (by decide) ?_
  refine lv_aload_n hx hb dL_usedShare_2 rfl (lv_at hl 0 rfl) ?_
  have hPc := hP.sub (ws' := [(h0, .inr (12, [.ref hd, .ref hse, .ref hki, .ref hma, .ref hst, .ref hsp, .ref hlp, .ref htl, .int 0, .int 0, .int 0, .int 0, .int 0, .int 0, .int 0, .long ((0 : Int32).toInt64)]))]) [0] rfl
  have hDc := hD.sub (ws' := [(h0, .inr (12, [.ref hd, .ref hse, .ref hki, .ref hma, .ref hst, .ref hsp, .ref hlp, .ref htl, .int 0, .int 0, .int 0, .int 0, .int 0, .int 0, .int 0, .long ((0 : Int32).toInt64)]))]) [0] (by decide) rfl
  have hKc := hK.sub (tys' := []) [] rfl
  have hFc : ∀ q : Nat, s.heap.size ≤ q → A q := fun q h => hA q (Nat.le_trans hS.1 h)
  refine vx_callf (vx_runV (As := []) (rest := [.int 0, .ref ao]) ⟨hx, hb, hml, hown, hts⟩ (c_X7_usedShare l dC dI e0 hlT h0 hd hse hki hma hst hsp hlp htl s.heap.size) (cwV 0 hts (goodIn_sub (fun _ h9 => List.mem_cons_of_mem _ (List.mem_append_right _ (h9))) (by decide +kernel)) rfl rfl rfl (by decide +kernel) ⟨(Nat.le_of_ble_eq_true rfl), (Nat.le_of_ble_eq_true rfl)⟩) ⟨fz_blind, va_recv hKc hPc (ci := 12) (q0 := 0) rfl rfl, fz_pre hPc hKc hDc hAm hS hFc⟩ rfl rfl hl.1 rfl (lv_room (Nat.le_of_ble_eq_true rfl)) dL_usedShare_3 ⟨(Nat.le_of_ble_eq_true rfl), (Nat.le_of_ble_eq_true rfl)⟩) hS (fun q _ h => hFc q h) hFc (fun q _ h => hFc q h) (fun E ce q9 u t H1 locs ht hvm hpx hBX hz1 hk1 hS hce hcv hcl => ?_) (fun r u t H1 locs ht hvm hw hB hz1 hk1 hS => ?_)
  · obtain rfl := hBX
    have hP := fz_keep hP hk1
    generalize H1 = H at hP hS hce ⊢
    have hP : va_P (dC, dI) vwCl [(h0, .inr (12, [.ref hd, .ref hse, .ref hki, .ref hma, .ref hst, .ref hsp, .ref hlp, .ref htl, .int 0, .int 0, .int 0, .int 0, .int 0, .int 0, .int 0, .long ((0 : Int32).toInt64)])), (ao, .inl (cD, 1, .inr (.inr (.inr (.inl fo)))))] H := hP
    have hD : va_D A [(h0, .inr (12, [.ref hd, .ref hse, .ref hki, .ref hma, .ref hst, .ref hsp, .ref hlp, .ref htl, .int 0, .int 0, .int 0, .int 0, .int 0, .int 0, .int 0, .long ((0 : Int32).toInt64)])), (ao, .inl (cD, 1, .inr (.inr (.inr (.inl fo)))))] := hD
    refine vx_widen (k := 1) (n := 6) (Nat.le_of_ble_eq_true rfl) (Nat.le_of_ble_eq_true rfl) ?_
    refine vx_catch (own := RL) (name := "java/lang/ArithmeticException") hown [] ⟨0, 8, 11, 107⟩ [] htab (fun z hz => nomatch hz) (by decide) (by decide) (hts _ (List.mem_cons_of_mem _ (List.mem_append_left _ (List.mem_of_getElem? (i := 0) rfl)))) (hAm.1.2.1 _ fz_x_Arithmetic).use hce hcv hcl ?_
    refine W.eq (g2 := F0 m 11 ls [.ref q9]) rfl ?_
    refine lv_astore_n (lv' := [(2, .ref q9), (0, .ref h0), (1, .ref ao)]) hx hb dL_usedShare_11 rfl hl (by decide) rfl (fun ls hl => ?_)
    refine lv_iconst (v := 1) hx hb dL_usedShare_12 (by decide) ?_
    have hP9 := hP.sub (ws' := [(ao, .inl (cD, 1, .inr (.inr (.inr (.inl fo)))))]) [1] rfl
    have hD9 := hD.sub (ws' := [(ao, .inl (cD, 1, .inr (.inr (.inr (.inl fo)))))]) [1] (by decide) rfl
    have hK9 := hK.sub (tys' := [(cD, .double)]) [0] rfl
    refine W.widen (k := 1) (n := 6) (Nat.le_of_ble_eq_true rfl) (Nat.le_of_ble_eq_true rfl) ?_
    exact W.iret (v := 1) hx hb hr (fun t ht hW => ⟨⟨1, (), rfl, rfl, ⟨by rw [ht]; exact hP9, va_K.moved hW.alike hK9, hD9⟩⟩, hS.F ht⟩) hS.2.2 dL_usedShare_13
  · exact hw.elim
def v_c_L_meanArea : List Cond := .codeWith yL_meanArea cL_meanArea 3 (some .int) [(0, 7, 10, 107)] :: ([.classLink RL 107 "java/lang/ArithmeticException"] ++ (wsV RL 109 RX7 yX7_meanArea v_c_X7_meanArea))
set_option maxRecDepth 20000 in
theorem i_c_L_meanArea : ∀ w ∈ v_c_L_meanArea, w ∈ lw_tbl := List.forall_mem_cons.mpr ⟨List.mem_of_getElem? (i := 1283) (by decide +kernel), List.forall_mem_append.mpr ⟨List.forall_mem_cons.mpr ⟨List.mem_of_getElem? (i := 1260) (by decide +kernel), fun _ h => absurd h List.not_mem_nil⟩, (by unfold wsV; exact List.forall_mem_append.mpr ⟨List.forall_mem_cons.mpr ⟨List.mem_of_getElem? (i := 1284) (by decide +kernel), List.forall_mem_cons.mpr ⟨List.mem_of_getElem? (i := 1285) (by decide +kernel), List.forall_mem_cons.mpr ⟨List.mem_of_getElem? (i := 1286) (by decide +kernel), List.forall_mem_cons.mpr ⟨List.mem_of_getElem? (i := 49) (by decide +kernel), fun _ h => absurd h List.not_mem_nil⟩⟩⟩⟩, i_c_X7_meanArea⟩)⟩⟩
set_option maxHeartbeats 4000000 in
set_option maxRecDepth 100000 in
theorem c_L_meanArea (l : Launch) (dC : Nat → ClassId) (dI : Nat → Nat → Nat) (e0 : Nat) (hlT : l.stackTraces = false) (h0 ao hd hse hki hma hst hsp hlp htl hj hpr hqd : Nat) (cD : ClassId) (fo : Nat → UInt64) (sz : Nat) : Met l yL_meanArea v_c_L_meanArea ({ frames := 8, cells := 1, slots := 6, locals := 121 }) (fz_P (dC, dI) e0 [(h0, .inr (12, [.ref hd, .ref hse, .ref hki, .ref hma, .ref hst, .ref hsp, .ref hlp, .ref htl, .int 0, .int 0, .int 0, .int 0, .int 0, .int 0, .int 0, .long ((0 : Int32).toInt64)])), (hd, .inr (6, [.ref hj, .ref hpr, .ref hqd, .int 0, .int 0, .int 1])), (ao, .inl (cD, 1, .inr (.inr (.inr (.inl fo)))))] [(cD, .double)] sz (va_A [(h0, .inr (12, [.ref hd, .ref hse, .ref hki, .ref hma, .ref hst, .ref hsp, .ref hlp, .ref htl, .int 0, .int 0, .int 0, .int 0, .int 0, .int 0, .int 0, .long ((0 : Int32).toInt64)])), (hd, .inr (6, [.ref hj, .ref hpr, .ref hqd, .int 0, .int 0, .int 1])), (ao, .inl (cD, 1, .inr (.inr (.inr (.inl fo)))))] sz) [.ref h0, .ref ao]) (va_Qi (fun (r : Int32) (u : Unit) => r = 1) (fun (u : Unit) (t : State) => va_P (dC, dI) vwCl [(ao, .inl (cD, 1, .inr (.inr (.inr (.inl fo)))))] t.heap ∧ va_K (dC, dI) vwCl [(cD, .double)] t ∧ va_D (va_A [(h0, .inr (12, [.ref hd, .ref hse, .ref hki, .ref hma, .ref hst, .ref hsp, .ref hlp, .ref htl, .int 0, .int 0, .int 0, .int 0, .int 0, .int 0, .int 0, .long ((0 : Int32).toInt64)])), (hd, .inr (6, [.ref hj, .ref hpr, .ref hqd, .int 0, .int 0, .int 1])), (ao, .inl (cD, 1, .inr (.inr (.inr (.inl fo)))))] sz) [(ao, .inl (cD, 1, .inr (.inr (.inr (.inl fo)))))]) (va_A [(h0, .inr (12, [.ref hd, .ref hse, .ref hki, .ref hma, .ref hst, .ref hsp, .ref hlp, .ref htl, .int 0, .int 0, .int 0, .int 0, .int 0, .int 0, .int 0, .long ((0 : Int32).toInt64)])), (hd, .inr (6, [.ref hj, .ref hpr, .ref hqd, .int 0, .int 0, .int 1])), (ao, .inl (cD, 1, .inr (.inr (.inr (.inl fo)))))] sz)) 1 6 (va_A [(h0, .inr (12, [.ref hd, .ref hse, .ref hki, .ref hma, .ref hst, .ref hsp, .ref hlp, .ref htl, .int 0, .int 0, .int 0, .int 0, .int 0, .int 0, .int 0, .long ((0 : Int32).toInt64)])), (hd, .inr (6, [.ref hj, .ref hpr, .ref hqd, .int 0, .int 0, .int 1])), (ao, .inl (cD, 1, .inr (.inr (.inr (.inl fo)))))] sz) := by
  refine va_MetW (cc := cL_meanArea) (maxL := 3) (ret := (some .int)) (by decide) rfl ?_
  intro p e s m args below meth c s₁ B hml hv
  obtain ⟨rfl, hsz, hP, hK, hD0, hAm⟩ := hv
  have hx := B.exec
  have hb := B.bytes
  have hr := B.returns
  have hts := atoms_spec (ws := v_c_L_meanArea) B.pre
  have hown : s.vm.findClass RL = some m.cls := findClass_of_methodNamed B.named
  have hlocks := B.notSynchronized
  have htab := vx_table (x := yL_meanArea) B (hts _ List.mem_cons_self)
  subst hsz
  have hD := hD0.self (sz := s.heap.size)
  generalize hAe : va_A [(h0, .inr (12, [.ref hd, .ref hse, .ref hki, .ref hma, .ref hst, .ref hsp, .ref hlp, .ref htl, .int 0, .int 0, .int 0, .int 0, .int 0, .int 0, .int 0, .long ((0 : Int32).toInt64)])), (hd, .inr (6, [.ref hj, .ref hpr, .ref hqd, .int 0, .int 0, .int 1])), (ao, .inl (cD, 1, .inr (.inr (.inr (.inl fo)))))] s.heap.size = A at hD hAm ⊢
  have hA : ∀ q : Nat, s.heap.size ≤ q → A q := fun q h => by rw [← hAe]; exact Or.inr h
  have hS : va_S A s.heap s.heap [] := va_S.rf
  have hP : va_P (dC, dI) vwCl [(h0, .inr (12, [.ref hd, .ref hse, .ref hki, .ref hma, .ref hst, .ref hsp, .ref hlp, .ref htl, .int 0, .int 0, .int 0, .int 0, .int 0, .int 0, .int 0, .long ((0 : Int32).toInt64)])), (hd, .inr (6, [.ref hj, .ref hpr, .ref hqd, .int 0, .int 0, .int 1])), (ao, .inl (cD, 1, .inr (.inr (.inr (.inl fo)))))] s.heap := hP
  have hl := lv_entry ([.ref h0, .ref ao]) (n := 3) (Nat.le_of_ble_eq_true rfl)
  rw [lg_entry_eq]
  generalize (lg_sl ([.ref h0, .ref ao]) ++ List.replicate (3 - (lg_sl ([.ref h0, .ref ao])).length) Slot.unset).toArray = ls at hl ⊢
  have hl : lv_has ls 3 [(0, .ref h0), (1, .ref ao)] := hl
  refine lv_aload_n hx hb dL_meanArea_0 rfl (lv_at hl 1 rfl) ?_
  refine lv_iconst (v := 0) hx hb dL_meanArea_1 (by decide) ?_
  refine lv_aload_n hx hb dL_meanArea_2 rfl (lv_at hl 0 rfl) ?_
  have hPc := hP.sub (ws' := [(h0, .inr (12, [.ref hd, .ref hse, .ref hki, .ref hma, .ref hst, .ref hsp, .ref hlp, .ref htl, .int 0, .int 0, .int 0, .int 0, .int 0, .int 0, .int 0, .long ((0 : Int32).toInt64)])), (hd, .inr (6, [.ref hj, .ref hpr, .ref hqd, .int 0, .int 0, .int 1]))]) [0, 1] rfl
  have hDc := hD.sub (ws' := [(h0, .inr (12, [.ref hd, .ref hse, .ref hki, .ref hma, .ref hst, .ref hsp, .ref hlp, .ref htl, .int 0, .int 0, .int 0, .int 0, .int 0, .int 0, .int 0, .long ((0 : Int32).toInt64)])), (hd, .inr (6, [.ref hj, .ref hpr, .ref hqd, .int 0, .int 0, .int 1]))]) [0, 1] (by decide) rfl
  have hKc := hK.sub (tys' := []) [] rfl
  have hFc : ∀ q : Nat, s.heap.size ≤ q → A q := fun q h => hA q (Nat.le_trans hS.1 h)
  refine vx_calld (vx_runV (As := []) (rest := [.int 0, .ref ao]) ⟨hx, hb, hml, hown, hts⟩ (c_X7_meanArea l dC dI e0 hlT h0 hd hse hki hma hst hsp hlp htl hj hpr hqd s.heap.size) (cwV 0 hts (goodIn_sub (fun _ h9 => List.mem_cons_of_mem _ (List.mem_append_right _ (h9))) (by decide +kernel)) rfl rfl rfl (by decide +kernel) ⟨(Nat.le_of_ble_eq_true rfl), (Nat.le_of_ble_eq_true rfl)⟩) ⟨fz_blind, va_recv hKc hPc (ci := 12) (q0 := 0) rfl rfl, fz_pre hPc hKc hDc hAm hS hFc⟩ rfl rfl hl.1 rfl (lv_room (Nat.le_of_ble_eq_true rfl)) dL_meanArea_3 ⟨(Nat.le_of_ble_eq_true rfl), (Nat.le_of_ble_eq_true rfl)⟩) hS (fun q _ h => hFc q h) hFc (fun q _ h => hFc q h) (fun E ce q9 u t H1 locs ht hvm hpx hBX hz1 hk1 hS hce hcv hcl => ?_) (fun r u t H1 locs ht hvm hw hB hz1 hk1 hS => ?_)
  · obtain rfl := hBX
    have hP := fz_keep hP hk1
    generalize H1 = H at hP hS hce ⊢
    have hP : va_P (dC, dI) vwCl [(h0, .inr (12, [.ref hd, .ref hse, .ref hki, .ref hma, .ref hst, .ref hsp, .ref hlp, .ref htl, .int 0, .int 0, .int 0, .int 0, .int 0, .int 0, .int 0, .long ((0 : Int32).toInt64)])), (hd, .inr (6, [.ref hj, .ref hpr, .ref hqd, .int 0, .int 0, .int 1])), (ao, .inl (cD, 1, .inr (.inr (.inr (.inl fo)))))] H := hP
    have hD : va_D A [(h0, .inr (12, [.ref hd, .ref hse, .ref hki, .ref hma, .ref hst, .ref hsp, .ref hlp, .ref htl, .int 0, .int 0, .int 0, .int 0, .int 0, .int 0, .int 0, .long ((0 : Int32).toInt64)])), (hd, .inr (6, [.ref hj, .ref hpr, .ref hqd, .int 0, .int 0, .int 1])), (ao, .inl (cD, 1, .inr (.inr (.inr (.inl fo)))))] := hD
    refine vx_widen (k := 1) (n := 6) (Nat.le_of_ble_eq_true rfl) (Nat.le_of_ble_eq_true rfl) ?_
    refine vx_catch (own := RL) (name := "java/lang/ArithmeticException") hown [] ⟨0, 7, 10, 107⟩ [] htab (fun z hz => nomatch hz) (by decide) (by decide) (hts _ (List.mem_cons_of_mem _ (List.mem_append_left _ (List.mem_of_getElem? (i := 0) rfl)))) (hAm.1.2.1 _ fz_x_Arithmetic).use hce hcv hcl ?_
    refine W.eq (g2 := F0 m 10 ls [.ref q9]) rfl ?_
    refine lv_astore_n (lv' := [(2, .ref q9), (0, .ref h0), (1, .ref ao)]) hx hb dL_meanArea_10 rfl hl (by decide) rfl (fun ls hl => ?_)
    refine lv_iconst (v := 1) hx hb dL_meanArea_11 (by decide) ?_
    have hP9 := hP.sub (ws' := [(ao, .inl (cD, 1, .inr (.inr (.inr (.inl fo)))))]) [2] rfl
    have hD9 := hD.sub (ws' := [(ao, .inl (cD, 1, .inr (.inr (.inr (.inl fo)))))]) [2] (by decide) rfl
    have hK9 := hK.sub (tys' := [(cD, .double)]) [0] rfl
    refine W.widen (k := 1) (n := 6) (Nat.le_of_ble_eq_true rfl) (Nat.le_of_ble_eq_true rfl) ?_
    exact W.iret (v := 1) hx hb hr (fun t ht hW => ⟨⟨1, (), rfl, rfl, ⟨by rw [ht]; exact hP9, va_K.moved hW.alike hK9, hD9⟩⟩, hS.F ht⟩) hS.2.2 dL_meanArea_12
  · exact hw.elim
