def v_c_X11_drawJoint : List Cond := .code yX11_drawJoint cX11_drawJoint 7 (some .int) :: ([.arrayClass .int, .fieldLink RX11 10 "VoussoirYardModel" "joints" "Ljava/util/List;", .fieldLink RX11 99 "VoussoirYardModel" "version" "I"] ++ (wsS RX11 75 yX11_isJoint v_c_X11_isJoint ++ (wsX110 ++ (va_wsF RX11 79 RJx4a65c ⟨"java/util/List", "isEmpty", "()Z"⟩ yJx4a65c_isEmpty_aae02 v_c_Jx4_isEmpty ++ (wsV RX11 65 RX11 yX11_no v_c_X11_no1 ++ (wsV RX11 92 RX11 yX11_standing v_c_X11_standing ++ (va_wsF RX11 42 RJx4a65c ⟨"java/util/List", "size", "()I"⟩ yJx4a65c_size_8abf5 v_c_Jx4_size ++ (va_wsF RX11 95 RJx4a65c ⟨"java/util/List", "add", "(Ljava/lang/Object;)Z"⟩ yJx4a65c_add_9ea2d v_c_Jx4_addI ++ (wsV RX11 65 RX11 yX11_no v_c_X11_no0)))))))))
set_option maxRecDepth 20000 in
theorem i_c_X11_drawJoint : ∀ w ∈ v_c_X11_drawJoint, w ∈ lw_tbl := List.forall_mem_cons.mpr ⟨List.mem_of_getElem? (i := 1383) (by decide +kernel), List.forall_mem_append.mpr ⟨List.forall_mem_cons.mpr ⟨List.mem_of_getElem? (i := 147) (by decide +kernel), List.forall_mem_cons.mpr ⟨List.mem_of_getElem? (i := 1324) (by decide +kernel), List.forall_mem_cons.mpr ⟨List.mem_of_getElem? (i := 1331) (by decide +kernel), fun _ h => absurd h List.not_mem_nil⟩⟩⟩, List.forall_mem_append.mpr ⟨(by unfold wsS; exact List.forall_mem_append.mpr ⟨List.forall_mem_cons.mpr ⟨List.mem_of_getElem? (i := 1384) (by decide +kernel), List.forall_mem_cons.mpr ⟨List.mem_of_getElem? (i := 1385) (by decide +kernel), List.forall_mem_cons.mpr ⟨List.mem_of_getElem? (i := 54) (by decide +kernel), fun _ h => absurd h List.not_mem_nil⟩⟩⟩, i_c_X11_isJoint⟩), List.forall_mem_append.mpr ⟨inX11, List.forall_mem_append.mpr ⟨(by unfold va_wsF; exact List.forall_mem_append.mpr ⟨List.forall_mem_cons.mpr ⟨List.mem_of_getElem? (i := 1392) (by decide +kernel), List.forall_mem_cons.mpr ⟨List.mem_of_getElem? (i := 1396) (by decide +kernel), List.forall_mem_cons.mpr ⟨List.mem_of_getElem? (i := 1398) (by decide +kernel), List.forall_mem_cons.mpr ⟨List.mem_of_getElem? (i := 57) (by decide +kernel), fun _ h => absurd h List.not_mem_nil⟩⟩⟩⟩, i_c_Jx4_isEmpty⟩), List.forall_mem_append.mpr ⟨(by unfold wsV; exact List.forall_mem_append.mpr ⟨List.forall_mem_cons.mpr ⟨List.mem_of_getElem? (i := 1434) (by decide +kernel), List.forall_mem_cons.mpr ⟨List.mem_of_getElem? (i := 1436) (by decide +kernel), List.forall_mem_cons.mpr ⟨List.mem_of_getElem? (i := 25) (by decide +kernel), List.forall_mem_cons.mpr ⟨List.mem_of_getElem? (i := 54) (by decide +kernel), fun _ h => absurd h List.not_mem_nil⟩⟩⟩⟩, i_c_X11_no1⟩), List.forall_mem_append.mpr ⟨(by unfold wsV; exact List.forall_mem_append.mpr ⟨List.forall_mem_cons.mpr ⟨List.mem_of_getElem? (i := 1438) (by decide +kernel), List.forall_mem_cons.mpr ⟨List.mem_of_getElem? (i := 1440) (by decide +kernel), List.forall_mem_cons.mpr ⟨List.mem_of_getElem? (i := 26) (by decide +kernel), List.forall_mem_cons.mpr ⟨List.mem_of_getElem? (i := 54) (by decide +kernel), fun _ h => absurd h List.not_mem_nil⟩⟩⟩⟩, i_c_X11_standing⟩), List.forall_mem_append.mpr ⟨(by unfold va_wsF; exact List.forall_mem_append.mpr ⟨List.forall_mem_cons.mpr ⟨List.mem_of_getElem? (i := 1402) (by decide +kernel), List.forall_mem_cons.mpr ⟨List.mem_of_getElem? (i := 1405) (by decide +kernel), List.forall_mem_cons.mpr ⟨List.mem_of_getElem? (i := 1407) (by decide +kernel), List.forall_mem_cons.mpr ⟨List.mem_of_getElem? (i := 57) (by decide +kernel), fun _ h => absurd h List.not_mem_nil⟩⟩⟩⟩, i_c_Jx4_size⟩), List.forall_mem_append.mpr ⟨(by unfold va_wsF; exact List.forall_mem_append.mpr ⟨List.forall_mem_cons.mpr ⟨List.mem_of_getElem? (i := 1443) (by decide +kernel), List.forall_mem_cons.mpr ⟨List.mem_of_getElem? (i := 1446) (by decide +kernel), List.forall_mem_cons.mpr ⟨List.mem_of_getElem? (i := 1448) (by decide +kernel), List.forall_mem_cons.mpr ⟨List.mem_of_getElem? (i := 57) (by decide +kernel), fun _ h => absurd h List.not_mem_nil⟩⟩⟩⟩, i_c_Jx4_addI⟩), (by unfold wsV; exact List.forall_mem_append.mpr ⟨List.forall_mem_cons.mpr ⟨List.mem_of_getElem? (i := 1434) (by decide +kernel), List.forall_mem_cons.mpr ⟨List.mem_of_getElem? (i := 1436) (by decide +kernel), List.forall_mem_cons.mpr ⟨List.mem_of_getElem? (i := 25) (by decide +kernel), List.forall_mem_cons.mpr ⟨List.mem_of_getElem? (i := 54) (by decide +kernel), fun _ h => absurd h List.not_mem_nil⟩⟩⟩⟩, i_c_X11_no0⟩)⟩⟩⟩⟩⟩⟩⟩⟩⟩
set_option maxHeartbeats 4000000 in
set_option maxRecDepth 100000 in
theorem c_X11_drawJoint (l : Launch) (dC : Nat → ClassId) (dI : Nat → Nat → Nat) (e0 : Nat) (g0 : Nat) (p0 p1 p2 p3 : Int32) (mj mq mm ms mf ml : Nat) (cI : ClassId) (ff : Nat → Int32) (sz : Nat) (hff : ∀ j : Nat, j < 7 → ff j = -1) : Met l yX11_drawJoint v_c_X11_drawJoint ({ frames := 5, cells := 2, slots := 14, locals := 117 }) (fz_P (dC, dI) e0 [(g0, .inr (16, [.ref mj, .ref mq, .ref mm, .ref ms, .ref mf, .ref ml, .int 0, .int 0, .int 1, .int 0, .int (-1), .int 0, .int 0, .int 0, .int 0, .int 0, .long 0])), (mj, .inr (4, [.int 0, .ref e0, .int 0])), (mf, .inl (cI, 7, .inl ff))] [(cI, .int)] sz (va_A [(g0, .inr (16, [.ref mj, .ref mq, .ref mm, .ref ms, .ref mf, .ref ml, .int 0, .int 0, .int 1, .int 0, .int (-1), .int 0, .int 0, .int 0, .int 0, .int 0, .long 0])), (mj, .inr (4, [.int 0, .ref e0, .int 0])), (mf, .inl (cI, 7, .inl ff))] sz) [.ref g0, .int p0, .int p1, .int p2, .int p3]) (va_Qi (fun (r : Int32) (u : Int32) => (r = 0 ∧ u = 0 ∧ fz_v p0 p1 p2 p3) ∨ (r = 0 ∧ u = 1 ∧ ¬ fz_v p0 p1 p2 p3)) (fun (u : Int32) (t : State) => ∃ vv : Int32, va_P (dC, dI) vwCl [(g0, .inr (16, [.ref mj, .ref mq, .ref mm, .ref ms, .ref mf, .ref ml, .int u, .int vv, .int 1, .int 0, .int (-1), .int 0, .int 0, .int 0, .int 0, .int 0, .long 0]))] t.heap ∧ va_K (dC, dI) vwCl [] t ∧ va_D (va_A [(g0, .inr (16, [.ref mj, .ref mq, .ref mm, .ref ms, .ref mf, .ref ml, .int 0, .int 0, .int 1, .int 0, .int (-1), .int 0, .int 0, .int 0, .int 0, .int 0, .long 0])), (mj, .inr (4, [.int 0, .ref e0, .int 0])), (mf, .inl (cI, 7, .inl ff))] sz) [(g0, .inr (16, [.ref mj, .ref mq, .ref mm, .ref ms, .ref mf, .ref ml, .int u, .int vv, .int 1, .int 0, .int (-1), .int 0, .int 0, .int 0, .int 0, .int 0, .long 0]))]) (va_A [(g0, .inr (16, [.ref mj, .ref mq, .ref mm, .ref ms, .ref mf, .ref ml, .int 0, .int 0, .int 1, .int 0, .int (-1), .int 0, .int 0, .int 0, .int 0, .int 0, .long 0])), (mj, .inr (4, [.int 0, .ref e0, .int 0])), (mf, .inl (cI, 7, .inl ff))] sz)) 2 14 (va_A [(g0, .inr (16, [.ref mj, .ref mq, .ref mm, .ref ms, .ref mf, .ref ml, .int 0, .int 0, .int 1, .int 0, .int (-1), .int 0, .int 0, .int 0, .int 0, .int 0, .long 0])), (mj, .inr (4, [.int 0, .ref e0, .int 0])), (mf, .inl (cI, 7, .inl ff))] sz) := by
  refine Met.ofW (cc := cX11_drawJoint) (maxL := 7) (ret := (some .int)) (by decide) rfl ?_
  intro p e s m args below meth c s₁ B hml hv
  obtain ⟨rfl, hsz, hP, hK, hD0, hAm⟩ := hv
  have hx := B.exec
  have hb := B.bytes
  have hr := B.returns
  have hts := atoms_spec (ws := v_c_X11_drawJoint) B.pre
  have hown : s.vm.findClass RX11 = some m.cls := findClass_of_methodNamed B.named
  have hlocks := B.notSynchronized
  subst hsz
  have hD := hD0.self (sz := s.heap.size)
  generalize hAe : va_A [(g0, .inr (16, [.ref mj, .ref mq, .ref mm, .ref ms, .ref mf, .ref ml, .int 0, .int 0, .int 1, .int 0, .int (-1), .int 0, .int 0, .int 0, .int 0, .int 0, .long 0])), (mj, .inr (4, [.int 0, .ref e0, .int 0])), (mf, .inl (cI, 7, .inl ff))] s.heap.size = A at hD hAm ⊢
  have hA : ∀ q : Nat, s.heap.size ≤ q → A q := fun q h => by rw [← hAe]; exact Or.inr h
  have hS : va_S A s.heap s.heap [] := va_S.rf
  have hP : va_P (dC, dI) vwCl [(g0, .inr (16, [.ref mj, .ref mq, .ref mm, .ref ms, .ref mf, .ref ml, .int 0, .int 0, .int 1, .int 0, .int (-1), .int 0, .int 0, .int 0, .int 0, .int 0, .long 0])), (mj, .inr (4, [.int 0, .ref e0, .int 0])), (mf, .inl (cI, 7, .inl ff))] s.heap := hP
  have hl := lv_entry ([.ref g0, .int p0, .int p1, .int p2, .int p3]) (n := 7) (Nat.le_of_ble_eq_true rfl)
  rw [lg_entry_eq]
  generalize (lg_sl ([.ref g0, .int p0, .int p1, .int p2, .int p3]) ++ List.replicate (7 - (lg_sl ([.ref g0, .int p0, .int p1, .int p2, .int p3])).length) Slot.unset).toArray = ls at hl ⊢
  have hl : lv_has ls 7 [(0, .ref g0), (1, .int p0), (2, .int p1), (3, .int p2), (4, .int p3)] := hl
  refine lv_iconst (v := 4) hx hb dX11_drawJoint_0 (by decide) ?_
  refine va_newa (atype := .int) (ty := .int) (a0 := (4, .inl (fun _ => 0))) (N' := 4) hx hb (hts _ (List.mem_cons_of_mem _ (List.mem_append_left _ (List.mem_of_getElem? (i := 0) rfl)))) rfl hK hP hD hS hA (fun _ => rfl) (by decide) (by decide) (by decide) (Nat.le_of_ble_eq_true rfl) (Nat.le_of_ble_eq_true rfl) dX11_drawJoint_1 (fun q_1 cA_1 H hK hP hD hS => ?_)
  have hK : va_K (dC, dI) vwCl [(cI, .int), (cA_1, .int)] s := hK
  have hP : va_P (dC, dI) vwCl [(g0, .inr (16, [.ref mj, .ref mq, .ref mm, .ref ms, .ref mf, .ref ml, .int 0, .int 0, .int 1, .int 0, .int (-1), .int 0, .int 0, .int 0, .int 0, .int 0, .long 0])), (mj, .inr (4, [.int 0, .ref e0, .int 0])), (mf, .inl (cI, 7, .inl ff)), (q_1, .inl (cA_1, 4, .inl (fun _ => 0)))] H := hP
  have hD : va_D A [(g0, .inr (16, [.ref mj, .ref mq, .ref mm, .ref ms, .ref mf, .ref ml, .int 0, .int 0, .int 1, .int 0, .int (-1), .int 0, .int 0, .int 0, .int 0, .int 0, .long 0])), (mj, .inr (4, [.int 0, .ref e0, .int 0])), (mf, .inl (cI, 7, .inl ff)), (q_1, .inl (cA_1, 4, .inl (fun _ => 0)))] := hD
  refine W.widen (k := 1) (n := 4) (Nat.le_of_ble_eq_true rfl) (Nat.le_of_ble_eq_true rfl) ?_
  refine lv_dup hx hb dX11_drawJoint_3 rfl ?_
  refine lv_iconst (v := 0) hx hb dX11_drawJoint_4 (by decide) ?_
  refine lv_iload_n hx hb dX11_drawJoint_5 rfl (lv_at hl 1 rfl) ?_
  refine va_iast hx hb hK hP hD hS 3 1 rfl rfl (fz_il (by decide)) dX11_drawJoint_6 (fun H locs hP hD hS => ?_)
  have hP : va_P (dC, dI) vwCl [(g0, .inr (16, [.ref mj, .ref mq, .ref mm, .ref ms, .ref mf, .ref ml, .int 0, .int 0, .int 1, .int 0, .int (-1), .int 0, .int 0, .int 0, .int 0, .int 0, .long 0])), (mj, .inr (4, [.int 0, .ref e0, .int 0])), (mf, .inl (cI, 7, .inl ff)), (q_1, .inl (cA_1, 4, .inl (upd (fun _ => 0) (0 : Int32).toNatClampNeg p0)))] H := hP
  have hD : va_D A [(g0, .inr (16, [.ref mj, .ref mq, .ref mm, .ref ms, .ref mf, .ref ml, .int 0, .int 0, .int 1, .int 0, .int (-1), .int 0, .int 0, .int 0, .int 0, .int 0, .long 0])), (mj, .inr (4, [.int 0, .ref e0, .int 0])), (mf, .inl (cI, 7, .inl ff)), (q_1, .inl (cA_1, 4, .inl (upd (fun _ => 0) (0 : Int32).toNatClampNeg p0)))] := hD
  refine lv_dup hx hb dX11_drawJoint_7 rfl ?_
  refine lv_iconst (v := 1) hx hb dX11_drawJoint_8 (by decide) ?_
  refine lv_iload_n hx hb dX11_drawJoint_9 rfl (lv_at hl 2 rfl) ?_
  refine va_iast hx hb hK hP hD hS 3 1 rfl rfl (fz_il (by decide)) dX11_drawJoint_10 (fun H locs hP hD hS => ?_)
  have hP : va_P (dC, dI) vwCl [(g0, .inr (16, [.ref mj, .ref mq, .ref mm, .ref ms, .ref mf, .ref ml, .int 0, .int 0, .int 1, .int 0, .int (-1), .int 0, .int 0, .int 0, .int 0, .int 0, .long 0])), (mj, .inr (4, [.int 0, .ref e0, .int 0])), (mf, .inl (cI, 7, .inl ff)), (q_1, .inl (cA_1, 4, .inl (upd (upd (fun _ => 0) (0 : Int32).toNatClampNeg p0) (1 : Int32).toNatClampNeg p1)))] H := hP
  have hD : va_D A [(g0, .inr (16, [.ref mj, .ref mq, .ref mm, .ref ms, .ref mf, .ref ml, .int 0, .int 0, .int 1, .int 0, .int (-1), .int 0, .int 0, .int 0, .int 0, .int 0, .long 0])), (mj, .inr (4, [.int 0, .ref e0, .int 0])), (mf, .inl (cI, 7, .inl ff)), (q_1, .inl (cA_1, 4, .inl (upd (upd (fun _ => 0) (0 : Int32).toNatClampNeg p0) (1 : Int32).toNatClampNeg p1)))] := hD
  refine lv_dup hx hb dX11_drawJoint_11 rfl ?_
  refine lv_iconst (v := 2) hx hb dX11_drawJoint_12 (by decide) ?_
  refine lv_iload_n hx hb dX11_drawJoint_13 rfl (lv_at hl 3 rfl) ?_
  refine va_iast hx hb hK hP hD hS 3 1 rfl rfl (fz_il (by decide)) dX11_drawJoint_14 (fun H locs hP hD hS => ?_)
  have hP : va_P (dC, dI) vwCl [(g0, .inr (16, [.ref mj, .ref mq, .ref mm, .ref ms, .ref mf, .ref ml, .int 0, .int 0, .int 1, .int 0, .int (-1), .int 0, .int 0, .int 0, .int 0, .int 0, .long 0])), (mj, .inr (4, [.int 0, .ref e0, .int 0])), (mf, .inl (cI, 7, .inl ff)), (q_1, .inl (cA_1, 4, .inl (upd (upd (upd (fun _ => 0) (0 : Int32).toNatClampNeg p0) (1 : Int32).toNatClampNeg p1) (2 : Int32).toNatClampNeg p2)))] H := hP
  have hD : va_D A [(g0, .inr (16, [.ref mj, .ref mq, .ref mm, .ref ms, .ref mf, .ref ml, .int 0, .int 0, .int 1, .int 0, .int (-1), .int 0, .int 0, .int 0, .int 0, .int 0, .long 0])), (mj, .inr (4, [.int 0, .ref e0, .int 0])), (mf, .inl (cI, 7, .inl ff)), (q_1, .inl (cA_1, 4, .inl (upd (upd (upd (fun _ => 0) (0 : Int32).toNatClampNeg p0) (1 : Int32).toNatClampNeg p1) (2 : Int32).toNatClampNeg p2)))] := hD
  refine lv_dup hx hb dX11_drawJoint_15 rfl ?_
  refine lv_iconst (v := 3) hx hb dX11_drawJoint_16 (by decide) ?_
  refine lv_iload hx hb dX11_drawJoint_17 (lv_at hl 4 rfl) ?_
  refine va_iast hx hb hK hP hD hS 3 1 rfl rfl (fz_il (by decide)) dX11_drawJoint_19 (fun H locs hP hD hS => ?_)
  have hP : va_P (dC, dI) vwCl [(g0, .inr (16, [.ref mj, .ref mq, .ref mm, .ref ms, .ref mf, .ref ml, .int 0, .int 0, .int 1, .int 0, .int (-1), .int 0, .int 0, .int 0, .int 0, .int 0, .long 0])), (mj, .inr (4, [.int 0, .ref e0, .int 0])), (mf, .inl (cI, 7, .inl ff)), (q_1, .inl (cA_1, 4, .inl (upd (upd (upd (upd (fun _ => 0) (0 : Int32).toNatClampNeg p0) (1 : Int32).toNatClampNeg p1) (2 : Int32).toNatClampNeg p2) (3 : Int32).toNatClampNeg p3)))] H := hP
  have hD : va_D A [(g0, .inr (16, [.ref mj, .ref mq, .ref mm, .ref ms, .ref mf, .ref ml, .int 0, .int 0, .int 1, .int 0, .int (-1), .int 0, .int 0, .int 0, .int 0, .int 0, .long 0])), (mj, .inr (4, [.int 0, .ref e0, .int 0])), (mf, .inl (cI, 7, .inl ff)), (q_1, .inl (cA_1, 4, .inl (upd (upd (upd (upd (fun _ => 0) (0 : Int32).toNatClampNeg p0) (1 : Int32).toNatClampNeg p1) (2 : Int32).toNatClampNeg p2) (3 : Int32).toNatClampNeg p3)))] := hD
  refine lv_astore (lv' := [(5, .ref q_1), (0, .ref g0), (1, .int p0), (2, .int p1), (3, .int p2), (4, .int p3)]) hx hb dX11_drawJoint_20 hl (by decide) rfl (fun ls hl => ?_)
  refine lv_aload hx hb dX11_drawJoint_22 (lv_at hl 0 rfl) ?_
  have hPc := hP.sub (ws' := [(q_1, .inl (cA_1, 4, .inl (upd (upd (upd (upd (fun _ => 0) (0 : Int32).toNatClampNeg p0) (1 : Int32).toNatClampNeg p1) (2 : Int32).toNatClampNeg p2) (3 : Int32).toNatClampNeg p3)))]) [3] rfl
  have hDc := hD.sub (ws' := [(q_1, .inl (cA_1, 4, .inl (upd (upd (upd (upd (fun _ => 0) (0 : Int32).toNatClampNeg p0) (1 : Int32).toNatClampNeg p1) (2 : Int32).toNatClampNeg p2) (3 : Int32).toNatClampNeg p3)))]) [3] (by decide) rfl
  have hKc := hK.sub (tys' := [(cA_1, .int)]) [1] rfl
  have hFc : ∀ q : Nat, H.size ≤ q → A q := fun q h => hA q (Nat.le_trans hS.1 h)
  refine va_calli (va_runS (As := [.ref q_1]) (rest := []) ⟨hx, hb, hml, hown, hts⟩ (c_X11_isJoint l dC dI e0 q_1 cA_1 p0 p1 p2 p3 H.size) (cwS 1 hts (goodIn_sub (fun _ h9 => List.mem_cons_of_mem _ (List.mem_append_right _ (List.mem_append_left _ h9))) (by decide +kernel)) rfl rfl rfl (by decide +kernel) ⟨(Nat.le_of_ble_eq_true rfl), (Nat.le_of_ble_eq_true rfl)⟩) ⟨fz_blind, fz_pre hPc hKc hDc hAm hS hFc⟩ rfl rfl hl.1 rfl (lv_room (Nat.le_of_ble_eq_true rfl)) dX11_drawJoint_24 ⟨(Nat.le_of_ble_eq_true rfl), (Nat.le_of_ble_eq_true rfl)⟩) hS (fun q _ h => hFc q h) hFc (fun r u t H1 locs ht hvm hw hB hz1 hk1 hS => ?_)
  rcases hw with ⟨rfl, hp_2⟩ | ⟨rfl, hp_3⟩
  · have hP := fz_keep hP hk1
    generalize H1 = H at hP hS ⊢
    have hP : va_P (dC, dI) vwCl [(g0, .inr (16, [.ref mj, .ref mq, .ref mm, .ref ms, .ref mf, .ref ml, .int 0, .int 0, .int 1, .int 0, .int (-1), .int 0, .int 0, .int 0, .int 0, .int 0, .long 0])), (mj, .inr (4, [.int 0, .ref e0, .int 0])), (mf, .inl (cI, 7, .inl ff)), (q_1, .inl (cA_1, 4, .inl (upd (upd (upd (upd (fun _ => 0) (0 : Int32).toNatClampNeg p0) (1 : Int32).toNatClampNeg p1) (2 : Int32).toNatClampNeg p2) (3 : Int32).toNatClampNeg p3)))] H := hP
    have hD : va_D A [(g0, .inr (16, [.ref mj, .ref mq, .ref mm, .ref ms, .ref mf, .ref ml, .int 0, .int 0, .int 1, .int 0, .int (-1), .int 0, .int 0, .int 0, .int 0, .int 0, .long 0])), (mj, .inr (4, [.int 0, .ref e0, .int 0])), (mf, .inl (cI, 7, .inl ff)), (q_1, .inl (cA_1, 4, .inl (upd (upd (upd (upd (fun _ => 0) (0 : Int32).toNatClampNeg p0) (1 : Int32).toNatClampNeg p1) (2 : Int32).toNatClampNeg p2) (3 : Int32).toNatClampNeg p3)))] := hD
    refine W.widen (k := 1) (n := 4) (Nat.le_of_ble_eq_true rfl) (Nat.le_of_ble_eq_true rfl) ?_
    refine lv_if_eq (tgt := 77) hx hb dX11_drawJoint_27 (by decide) (fun c_9 => absurd c_9 (by decide)) (fun _ => ?_)
    refine lv_aload_n hx hb dX11_drawJoint_30 rfl (lv_at hl 1 rfl) ?_
    refine va_get (D := (dC, dI)) (ci := 16) (v := .ref mj) (C := RX11) (T := TX11) (N := 17) hx hb hts (fun _ h9 => List.mem_cons_of_mem _ (List.mem_append_right _ (List.mem_append_right _ (List.mem_append_left _ h9)))) hown hK hP 0 rfl rfl 0 (by decide) (hts _ (List.mem_cons_of_mem _ (List.mem_append_left _ (List.mem_of_getElem? (i := 1) rfl)))) (fun _ h9 => h9) rfl dX11_drawJoint_31 ?_
    have hPc := hP.sub (ws' := [(mj, .inr (4, [.int 0, .ref e0, .int 0]))]) [1] rfl
    have hDc := hD.sub (ws' := [(mj, .inr (4, [.int 0, .ref e0, .int 0]))]) [1] (by decide) rfl
    have hKc := hK.sub (tys' := []) [] rfl
    have hFc : ∀ q : Nat, H.size ≤ q → A q := fun q h => hA q (Nat.le_trans hS.1 h)
    refine va_callFi (va_runF (As := []) (rest := []) (hK.1 4 _ rfl).2 ⟨hx, hb, hml, hown, hts⟩ (c_Jx4_isEmpty l dC dI e0 mj H.size) (va_cwF 0 hts (goodIn_sub (fun _ h9 => List.mem_cons_of_mem _ (List.mem_append_right _ (List.mem_append_right _ (List.mem_append_right _ (List.mem_append_left _ h9))))) (by decide +kernel)) rfl rfl rfl hAm.1.2.2.2.1.1 (by decide +kernel) ⟨(Nat.le_of_ble_eq_true rfl), (Nat.le_of_ble_eq_true rfl)⟩) ⟨fz_blind, va_recv hKc hPc (ci := 4) (q0 := 0) rfl rfl, fz_pre hPc hKc hDc hAm hS hFc⟩ rfl rfl hl.1 rfl (lv_room (Nat.le_of_ble_eq_true rfl)) dX11_drawJoint_34 ⟨(Nat.le_of_ble_eq_true rfl), (Nat.le_of_ble_eq_true rfl)⟩) hS (fun q _ h => hFc q h) hFc (fun r u t H1 locs ht hvm hw hB hz1 hk1 hS => ?_)
    obtain rfl := hw
    have hP := fz_keep hP hk1
    generalize H1 = H at hP hS ⊢
    have hP : va_P (dC, dI) vwCl [(g0, .inr (16, [.ref mj, .ref mq, .ref mm, .ref ms, .ref mf, .ref ml, .int 0, .int 0, .int 1, .int 0, .int (-1), .int 0, .int 0, .int 0, .int 0, .int 0, .long 0])), (mj, .inr (4, [.int 0, .ref e0, .int 0])), (mf, .inl (cI, 7, .inl ff)), (q_1, .inl (cA_1, 4, .inl (upd (upd (upd (upd (fun _ => 0) (0 : Int32).toNatClampNeg p0) (1 : Int32).toNatClampNeg p1) (2 : Int32).toNatClampNeg p2) (3 : Int32).toNatClampNeg p3)))] H := hP
    have hD : va_D A [(g0, .inr (16, [.ref mj, .ref mq, .ref mm, .ref ms, .ref mf, .ref ml, .int 0, .int 0, .int 1, .int 0, .int (-1), .int 0, .int 0, .int 0, .int 0, .int 0, .long 0])), (mj, .inr (4, [.int 0, .ref e0, .int 0])), (mf, .inl (cI, 7, .inl ff)), (q_1, .inl (cA_1, 4, .inl (upd (upd (upd (upd (fun _ => 0) (0 : Int32).toNatClampNeg p0) (1 : Int32).toNatClampNeg p1) (2 : Int32).toNatClampNeg p2) (3 : Int32).toNatClampNeg p3)))] := hD
    refine W.widen (k := 1) (n := 4) (Nat.le_of_ble_eq_true rfl) (Nat.le_of_ble_eq_true rfl) ?_
    refine lv_if_ne (tgt := 73) hx hb dX11_drawJoint_39 (by decide) (fun _ => ?_) (fun c_9 => absurd c_9 (by decide))
    refine lv_iconst (v := 1) hx hb dX11_drawJoint_73 (by decide) ?_
    refine lv_goto (tgt := 78) hx hb dX11_drawJoint_74 (by decide) ?_
    refine lv_istore (lv' := [(6, .int 1), (5, .ref q_1), (0, .ref g0), (1, .int p0), (2, .int p1), (3, .int p2), (4, .int p3)]) hx hb dX11_drawJoint_78 hl (by decide) rfl (fun ls hl => ?_)
    refine lv_aload_n hx hb dX11_drawJoint_80 rfl (lv_at hl 2 rfl) ?_
    refine lv_iload hx hb dX11_drawJoint_81 (lv_at hl 0 rfl) ?_
    refine lv_iconst (v := 1) hx hb dX11_drawJoint_83 (by decide) ?_
    have hPc := hP.sub (ws' := [(g0, .inr (16, [.ref mj, .ref mq, .ref mm, .ref ms, .ref mf, .ref ml, .int 0, .int 0, .int 1, .int 0, .int (-1), .int 0, .int 0, .int 0, .int 0, .int 0, .long 0]))]) [0] rfl
    have hDc := hD.sub (ws' := [(g0, .inr (16, [.ref mj, .ref mq, .ref mm, .ref ms, .ref mf, .ref ml, .int 0, .int 0, .int 1, .int 0, .int (-1), .int 0, .int 0, .int 0, .int 0, .int 0, .long 0]))]) [0] (by decide) rfl
    have hKc := hK.sub (tys' := []) [] rfl
    have hFc := va_free (wc := [(g0, .inr (16, [.ref mj, .ref mq, .ref mm, .ref ms, .ref mf, .ref ml, .int 0, .int 0, .int 1, .int 0, .int (-1), .int 0, .int 0, .int 0, .int 0, .int 0, .long 0]))]) hD hS hA [0] rfl
    refine va_calli (va_runV (As := [.int 1, .int 1]) (rest := []) ⟨hx, hb, hml, hown, hts⟩ (c_X11_no1 l dC dI e0 g0 1 mj mq mm ms mf ml 0 H.size) (cwV 2 hts (goodIn_sub (fun _ h9 => List.mem_cons_of_mem _ (List.mem_append_right _ (List.mem_append_right _ (List.mem_append_right _ (List.mem_append_right _ (List.mem_append_left _ h9)))))) (by decide +kernel)) rfl rfl rfl (by decide +kernel) ⟨(Nat.le_of_ble_eq_true rfl), (Nat.le_of_ble_eq_true rfl)⟩) ⟨fz_blind, va_recv hKc hPc (ci := 16) (q0 := 0) rfl rfl, fz_pre hPc hKc hDc hAm hS hFc⟩ rfl rfl hl.1 rfl (lv_room (Nat.le_of_ble_eq_true rfl)) dX11_drawJoint_84 ⟨(Nat.le_of_ble_eq_true rfl), (Nat.le_of_ble_eq_true rfl)⟩) hS (fun q _ h => hFc q h) hFc (fun r u t H1 locs ht hvm hw hB hz1 hk1 hS => ?_)
    obtain rfl := hw
    obtain ⟨hP1, hK1, hD1⟩ := hB
    rw [ht] at hP1
    have hK1 := va_K.moved hvm.symm hK1
    obtain ⟨hP, hD⟩ := va_join (wr := [(mj, .inr (4, [.int 0, .ref e0, .int 0])), (mf, .inl (cI, 7, .inl ff)), (q_1, .inl (cA_1, 4, .inl (upd (upd (upd (upd (fun _ => 0) (0 : Int32).toNatClampNeg p0) (1 : Int32).toNatClampNeg p1) (2 : Int32).toNatClampNeg p2) (3 : Int32).toNatClampNeg p3)))]) (w1 := [(g0, .inr (16, [.ref mj, .ref mq, .ref mm, .ref ms, .ref mf, .ref ml, .int 0, .int 0, .int 1, .int 0, .int (-1), .int 0, .int 0, .int 0, .int 0, .int 0, .long 0]))]) hP hD [0] [1, 2, 3] rfl rfl (by decide) (by decide) hk1 hFc hP1 hD1
    generalize H1 = H at hP hS ⊢
    have hP : va_P (dC, dI) vwCl [(mj, .inr (4, [.int 0, .ref e0, .int 0])), (mf, .inl (cI, 7, .inl ff)), (q_1, .inl (cA_1, 4, .inl (upd (upd (upd (upd (fun _ => 0) (0 : Int32).toNatClampNeg p0) (1 : Int32).toNatClampNeg p1) (2 : Int32).toNatClampNeg p2) (3 : Int32).toNatClampNeg p3))), (g0, .inr (16, [.ref mj, .ref mq, .ref mm, .ref ms, .ref mf, .ref ml, .int 0, .int 0, .int 1, .int 0, .int (-1), .int 0, .int 0, .int 0, .int 0, .int 0, .long 0]))] H := hP
    have hD : va_D A [(mj, .inr (4, [.int 0, .ref e0, .int 0])), (mf, .inl (cI, 7, .inl ff)), (q_1, .inl (cA_1, 4, .inl (upd (upd (upd (upd (fun _ => 0) (0 : Int32).toNatClampNeg p0) (1 : Int32).toNatClampNeg p1) (2 : Int32).toNatClampNeg p2) (3 : Int32).toNatClampNeg p3))), (g0, .inr (16, [.ref mj, .ref mq, .ref mm, .ref ms, .ref mf, .ref ml, .int 0, .int 0, .int 1, .int 0, .int (-1), .int 0, .int 0, .int 0, .int 0, .int 0, .long 0]))] := hD
    have hK : va_K (dC, dI) vwCl [(cI, .int), (cA_1, .int)] s := hK
    refine W.widen (k := 1) (n := 4) (Nat.le_of_ble_eq_true rfl) (Nat.le_of_ble_eq_true rfl) ?_
    refine lv_if_ne (tgt := 137) hx hb dX11_drawJoint_87 (by decide) (fun c_9 => absurd (by decide) c_9) (fun _ => ?_)
    refine lv_aload_n hx hb dX11_drawJoint_90 rfl (lv_at hl 2 rfl) ?_
    refine lv_aload_n hx hb dX11_drawJoint_91 rfl (lv_at hl 2 rfl) ?_
    have hPc := hP.sub (ws' := [(g0, .inr (16, [.ref mj, .ref mq, .ref mm, .ref ms, .ref mf, .ref ml, .int 0, .int 0, .int 1, .int 0, .int (-1), .int 0, .int 0, .int 0, .int 0, .int 0, .long 0])), (mf, .inl (cI, 7, .inl ff))]) [3, 1] rfl
    have hDc := hD.sub (ws' := [(g0, .inr (16, [.ref mj, .ref mq, .ref mm, .ref ms, .ref mf, .ref ml, .int 0, .int 0, .int 1, .int 0, .int (-1), .int 0, .int 0, .int 0, .int 0, .int 0, .long 0])), (mf, .inl (cI, 7, .inl ff))]) [3, 1] (by decide) rfl
    have hKc := hK.sub (tys' := [(cI, .int)]) [0] rfl
    have hFc : ∀ q : Nat, H.size ≤ q → A q := fun q h => hA q (Nat.le_trans hS.1 h)
    refine va_calli (va_runV (As := []) (rest := [.ref g0]) ⟨hx, hb, hml, hown, hts⟩ (c_X11_standing l dC dI e0 g0 mj mq mm ms mf ml 0 cI ff H.size hff) (cwV 0 hts (goodIn_sub (fun _ h9 => List.mem_cons_of_mem _ (List.mem_append_right _ (List.mem_append_right _ (List.mem_append_right _ (List.mem_append_right _ (List.mem_append_right _ (List.mem_append_left _ h9))))))) (by decide +kernel)) rfl rfl rfl (by decide +kernel) ⟨(Nat.le_of_ble_eq_true rfl), (Nat.le_of_ble_eq_true rfl)⟩) ⟨fz_blind, va_recv hKc hPc (ci := 16) (q0 := 0) rfl rfl, fz_pre hPc hKc hDc hAm hS hFc⟩ rfl rfl hl.1 rfl (lv_room (Nat.le_of_ble_eq_true rfl)) dX11_drawJoint_92 ⟨(Nat.le_of_ble_eq_true rfl), (Nat.le_of_ble_eq_true rfl)⟩) hS (fun q _ h => hFc q h) hFc (fun r u t H1 locs ht hvm hw hB hz1 hk1 hS => ?_)
    obtain rfl := hw
    have hP := fz_keep hP hk1
    generalize H1 = H at hP hS ⊢
    have hP : va_P (dC, dI) vwCl [(mj, .inr (4, [.int 0, .ref e0, .int 0])), (mf, .inl (cI, 7, .inl ff)), (q_1, .inl (cA_1, 4, .inl (upd (upd (upd (upd (fun _ => 0) (0 : Int32).toNatClampNeg p0) (1 : Int32).toNatClampNeg p1) (2 : Int32).toNatClampNeg p2) (3 : Int32).toNatClampNeg p3))), (g0, .inr (16, [.ref mj, .ref mq, .ref mm, .ref ms, .ref mf, .ref ml, .int 0, .int 0, .int 1, .int 0, .int (-1), .int 0, .int 0, .int 0, .int 0, .int 0, .long 0]))] H := hP
    have hD : va_D A [(mj, .inr (4, [.int 0, .ref e0, .int 0])), (mf, .inl (cI, 7, .inl ff)), (q_1, .inl (cA_1, 4, .inl (upd (upd (upd (upd (fun _ => 0) (0 : Int32).toNatClampNeg p0) (1 : Int32).toNatClampNeg p1) (2 : Int32).toNatClampNeg p2) (3 : Int32).toNatClampNeg p3))), (g0, .inr (16, [.ref mj, .ref mq, .ref mm, .ref ms, .ref mf, .ref ml, .int 0, .int 0, .int 1, .int 0, .int (-1), .int 0, .int 0, .int 0, .int 0, .int 0, .long 0]))] := hD
    refine W.widen (k := 1) (n := 4) (Nat.le_of_ble_eq_true rfl) (Nat.le_of_ble_eq_true rfl) ?_
    refine lv_if_ne (tgt := 102) hx hb dX11_drawJoint_95 (by decide) (fun c_9 => absurd (by decide) c_9) (fun _ => ?_)
    refine lv_iconst (v := 1) hx hb dX11_drawJoint_98 (by decide) ?_
    refine lv_goto (tgt := 103) hx hb dX11_drawJoint_99 (by decide) ?_
    refine lv_iconst (v := 2) hx hb dX11_drawJoint_103 (by decide) ?_
    have hPc := hP.sub (ws' := [(g0, .inr (16, [.ref mj, .ref mq, .ref mm, .ref ms, .ref mf, .ref ml, .int 0, .int 0, .int 1, .int 0, .int (-1), .int 0, .int 0, .int 0, .int 0, .int 0, .long 0]))]) [3] rfl
    have hDc := hD.sub (ws' := [(g0, .inr (16, [.ref mj, .ref mq, .ref mm, .ref ms, .ref mf, .ref ml, .int 0, .int 0, .int 1, .int 0, .int (-1), .int 0, .int 0, .int 0, .int 0, .int 0, .long 0]))]) [3] (by decide) rfl
    have hKc := hK.sub (tys' := []) [] rfl
    have hFc := va_free (wc := [(g0, .inr (16, [.ref mj, .ref mq, .ref mm, .ref ms, .ref mf, .ref ml, .int 0, .int 0, .int 1, .int 0, .int (-1), .int 0, .int 0, .int 0, .int 0, .int 0, .long 0]))]) hD hS hA [3] rfl
    refine va_calli (va_runV (As := [.int 1, .int 2]) (rest := []) ⟨hx, hb, hml, hown, hts⟩ (c_X11_no1 l dC dI e0 g0 2 mj mq mm ms mf ml 0 H.size) (cwV 2 hts (goodIn_sub (fun _ h9 => List.mem_cons_of_mem _ (List.mem_append_right _ (List.mem_append_right _ (List.mem_append_right _ (List.mem_append_right _ (List.mem_append_left _ h9)))))) (by decide +kernel)) rfl rfl rfl (by decide +kernel) ⟨(Nat.le_of_ble_eq_true rfl), (Nat.le_of_ble_eq_true rfl)⟩) ⟨fz_blind, va_recv hKc hPc (ci := 16) (q0 := 0) rfl rfl, fz_pre hPc hKc hDc hAm hS hFc⟩ rfl rfl hl.1 rfl (lv_room (Nat.le_of_ble_eq_true rfl)) dX11_drawJoint_104 ⟨(Nat.le_of_ble_eq_true rfl), (Nat.le_of_ble_eq_true rfl)⟩) hS (fun q _ h => hFc q h) hFc (fun r u t H1 locs ht hvm hw hB hz1 hk1 hS => ?_)
    obtain rfl := hw
    obtain ⟨hP1, hK1, hD1⟩ := hB
    rw [ht] at hP1
    have hK1 := va_K.moved hvm.symm hK1
    obtain ⟨hP, hD⟩ := va_join (wr := [(mj, .inr (4, [.int 0, .ref e0, .int 0])), (mf, .inl (cI, 7, .inl ff)), (q_1, .inl (cA_1, 4, .inl (upd (upd (upd (upd (fun _ => 0) (0 : Int32).toNatClampNeg p0) (1 : Int32).toNatClampNeg p1) (2 : Int32).toNatClampNeg p2) (3 : Int32).toNatClampNeg p3)))]) (w1 := [(g0, .inr (16, [.ref mj, .ref mq, .ref mm, .ref ms, .ref mf, .ref ml, .int 0, .int 0, .int 1, .int 0, .int (-1), .int 0, .int 0, .int 0, .int 0, .int 0, .long 0]))]) hP hD [3] [0, 1, 2] rfl rfl (by decide) (by decide) hk1 hFc hP1 hD1
    generalize H1 = H at hP hS ⊢
    have hP : va_P (dC, dI) vwCl [(mj, .inr (4, [.int 0, .ref e0, .int 0])), (mf, .inl (cI, 7, .inl ff)), (q_1, .inl (cA_1, 4, .inl (upd (upd (upd (upd (fun _ => 0) (0 : Int32).toNatClampNeg p0) (1 : Int32).toNatClampNeg p1) (2 : Int32).toNatClampNeg p2) (3 : Int32).toNatClampNeg p3))), (g0, .inr (16, [.ref mj, .ref mq, .ref mm, .ref ms, .ref mf, .ref ml, .int 0, .int 0, .int 1, .int 0, .int (-1), .int 0, .int 0, .int 0, .int 0, .int 0, .long 0]))] H := hP
    have hD : va_D A [(mj, .inr (4, [.int 0, .ref e0, .int 0])), (mf, .inl (cI, 7, .inl ff)), (q_1, .inl (cA_1, 4, .inl (upd (upd (upd (upd (fun _ => 0) (0 : Int32).toNatClampNeg p0) (1 : Int32).toNatClampNeg p1) (2 : Int32).toNatClampNeg p2) (3 : Int32).toNatClampNeg p3))), (g0, .inr (16, [.ref mj, .ref mq, .ref mm, .ref ms, .ref mf, .ref ml, .int 0, .int 0, .int 1, .int 0, .int (-1), .int 0, .int 0, .int 0, .int 0, .int 0, .long 0]))] := hD
    have hK : va_K (dC, dI) vwCl [(cI, .int), (cA_1, .int)] s := hK
    refine W.widen (k := 1) (n := 4) (Nat.le_of_ble_eq_true rfl) (Nat.le_of_ble_eq_true rfl) ?_
    refine lv_if_ne (tgt := 137) hx hb dX11_drawJoint_107 (by decide) (fun c_9 => absurd (by decide) c_9) (fun _ => ?_)
    refine lv_aload_n hx hb dX11_drawJoint_110 rfl (lv_at hl 2 rfl) ?_
    refine lv_aload_n hx hb dX11_drawJoint_111 rfl (lv_at hl 2 rfl) ?_
    refine va_get (D := (dC, dI)) (ci := 16) (v := .ref mj) (C := RX11) (T := TX11) (N := 17) hx hb hts (fun _ h9 => List.mem_cons_of_mem _ (List.mem_append_right _ (List.mem_append_right _ (List.mem_append_left _ h9)))) hown hK hP 3 rfl rfl 0 (by decide) (hts _ (List.mem_cons_of_mem _ (List.mem_append_left _ (List.mem_of_getElem? (i := 1) rfl)))) (fun _ h9 => h9) rfl dX11_drawJoint_112 ?_
    have hPc := hP.sub (ws' := [(mj, .inr (4, [.int 0, .ref e0, .int 0]))]) [0] rfl
    have hDc := hD.sub (ws' := [(mj, .inr (4, [.int 0, .ref e0, .int 0]))]) [0] (by decide) rfl
    have hKc := hK.sub (tys' := []) [] rfl
    have hFc : ∀ q : Nat, H.size ≤ q → A q := fun q h => hA q (Nat.le_trans hS.1 h)
    refine va_callFi (va_runF (As := []) (rest := [.ref g0]) (hK.1 4 _ rfl).2 ⟨hx, hb, hml, hown, hts⟩ (c_Jx4_size l dC dI e0 mj 0 e0 0 H.size) (va_cwF 0 hts (goodIn_sub (fun _ h9 => List.mem_cons_of_mem _ (List.mem_append_right _ (List.mem_append_right _ (List.mem_append_right _ (List.mem_append_right _ (List.mem_append_right _ (List.mem_append_right _ (List.mem_append_left _ h9)))))))) (by decide +kernel)) rfl rfl rfl hAm.1.2.2.2.1.2.1 (by decide +kernel) ⟨(Nat.le_of_ble_eq_true rfl), (Nat.le_of_ble_eq_true rfl)⟩) ⟨fz_blind, va_recv hKc hPc (ci := 4) (q0 := 0) rfl rfl, fz_pre hPc hKc hDc hAm hS hFc⟩ rfl rfl hl.1 rfl (lv_room (Nat.le_of_ble_eq_true rfl)) dX11_drawJoint_115 ⟨(Nat.le_of_ble_eq_true rfl), (Nat.le_of_ble_eq_true rfl)⟩) hS (fun q _ h => hFc q h) hFc (fun r u t H1 locs ht hvm hw hB hz1 hk1 hS => ?_)
    obtain rfl := hw
    have hP := fz_keep hP hk1
    generalize H1 = H at hP hS ⊢
    have hP : va_P (dC, dI) vwCl [(mj, .inr (4, [.int 0, .ref e0, .int 0])), (mf, .inl (cI, 7, .inl ff)), (q_1, .inl (cA_1, 4, .inl (upd (upd (upd (upd (fun _ => 0) (0 : Int32).toNatClampNeg p0) (1 : Int32).toNatClampNeg p1) (2 : Int32).toNatClampNeg p2) (3 : Int32).toNatClampNeg p3))), (g0, .inr (16, [.ref mj, .ref mq, .ref mm, .ref ms, .ref mf, .ref ml, .int 0, .int 0, .int 1, .int 0, .int (-1), .int 0, .int 0, .int 0, .int 0, .int 0, .long 0]))] H := hP
    have hD : va_D A [(mj, .inr (4, [.int 0, .ref e0, .int 0])), (mf, .inl (cI, 7, .inl ff)), (q_1, .inl (cA_1, 4, .inl (upd (upd (upd (upd (fun _ => 0) (0 : Int32).toNatClampNeg p0) (1 : Int32).toNatClampNeg p1) (2 : Int32).toNatClampNeg p2) (3 : Int32).toNatClampNeg p3))), (g0, .inr (16, [.ref mj, .ref mq, .ref mm, .ref ms, .ref mf, .ref ml, .int 0, .int 0, .int 1, .int 0, .int (-1), .int 0, .int 0, .int 0, .int 0, .int 0, .long 0]))] := hD
    refine W.widen (k := 1) (n := 4) (Nat.le_of_ble_eq_true rfl) (Nat.le_of_ble_eq_true rfl) ?_
    refine lv_bipush (v := 8) hx hb dX11_drawJoint_120 (by decide) ?_
    refine lv_icmp_ge (tgt := 129) hx hb dX11_drawJoint_122 (by decide) (fun c_9 => absurd c_9 (by decide)) (fun _ => ?_)
    refine lv_iconst (v := 1) hx hb dX11_drawJoint_125 (by decide) ?_
    refine lv_goto (tgt := 130) hx hb dX11_drawJoint_126 (by decide) ?_
    refine lv_iconst (v := 3) hx hb dX11_drawJoint_130 (by decide) ?_
    have hPc := hP.sub (ws' := [(g0, .inr (16, [.ref mj, .ref mq, .ref mm, .ref ms, .ref mf, .ref ml, .int 0, .int 0, .int 1, .int 0, .int (-1), .int 0, .int 0, .int 0, .int 0, .int 0, .long 0]))]) [3] rfl
    have hDc := hD.sub (ws' := [(g0, .inr (16, [.ref mj, .ref mq, .ref mm, .ref ms, .ref mf, .ref ml, .int 0, .int 0, .int 1, .int 0, .int (-1), .int 0, .int 0, .int 0, .int 0, .int 0, .long 0]))]) [3] (by decide) rfl
    have hKc := hK.sub (tys' := []) [] rfl
    have hFc := va_free (wc := [(g0, .inr (16, [.ref mj, .ref mq, .ref mm, .ref ms, .ref mf, .ref ml, .int 0, .int 0, .int 1, .int 0, .int (-1), .int 0, .int 0, .int 0, .int 0, .int 0, .long 0]))]) hD hS hA [3] rfl
    refine va_calli (va_runV (As := [.int 1, .int 3]) (rest := []) ⟨hx, hb, hml, hown, hts⟩ (c_X11_no1 l dC dI e0 g0 3 mj mq mm ms mf ml 0 H.size) (cwV 2 hts (goodIn_sub (fun _ h9 => List.mem_cons_of_mem _ (List.mem_append_right _ (List.mem_append_right _ (List.mem_append_right _ (List.mem_append_right _ (List.mem_append_left _ h9)))))) (by decide +kernel)) rfl rfl rfl (by decide +kernel) ⟨(Nat.le_of_ble_eq_true rfl), (Nat.le_of_ble_eq_true rfl)⟩) ⟨fz_blind, va_recv hKc hPc (ci := 16) (q0 := 0) rfl rfl, fz_pre hPc hKc hDc hAm hS hFc⟩ rfl rfl hl.1 rfl (lv_room (Nat.le_of_ble_eq_true rfl)) dX11_drawJoint_131 ⟨(Nat.le_of_ble_eq_true rfl), (Nat.le_of_ble_eq_true rfl)⟩) hS (fun q _ h => hFc q h) hFc (fun r u t H1 locs ht hvm hw hB hz1 hk1 hS => ?_)
    obtain rfl := hw
    obtain ⟨hP1, hK1, hD1⟩ := hB
    rw [ht] at hP1
    have hK1 := va_K.moved hvm.symm hK1
    obtain ⟨hP, hD⟩ := va_join (wr := [(mj, .inr (4, [.int 0, .ref e0, .int 0])), (mf, .inl (cI, 7, .inl ff)), (q_1, .inl (cA_1, 4, .inl (upd (upd (upd (upd (fun _ => 0) (0 : Int32).toNatClampNeg p0) (1 : Int32).toNatClampNeg p1) (2 : Int32).toNatClampNeg p2) (3 : Int32).toNatClampNeg p3)))]) (w1 := [(g0, .inr (16, [.ref mj, .ref mq, .ref mm, .ref ms, .ref mf, .ref ml, .int 0, .int 0, .int 1, .int 0, .int (-1), .int 0, .int 0, .int 0, .int 0, .int 0, .long 0]))]) hP hD [3] [0, 1, 2] rfl rfl (by decide) (by decide) hk1 hFc hP1 hD1
    generalize H1 = H at hP hS ⊢
    have hP : va_P (dC, dI) vwCl [(mj, .inr (4, [.int 0, .ref e0, .int 0])), (mf, .inl (cI, 7, .inl ff)), (q_1, .inl (cA_1, 4, .inl (upd (upd (upd (upd (fun _ => 0) (0 : Int32).toNatClampNeg p0) (1 : Int32).toNatClampNeg p1) (2 : Int32).toNatClampNeg p2) (3 : Int32).toNatClampNeg p3))), (g0, .inr (16, [.ref mj, .ref mq, .ref mm, .ref ms, .ref mf, .ref ml, .int 0, .int 0, .int 1, .int 0, .int (-1), .int 0, .int 0, .int 0, .int 0, .int 0, .long 0]))] H := hP
    have hD : va_D A [(mj, .inr (4, [.int 0, .ref e0, .int 0])), (mf, .inl (cI, 7, .inl ff)), (q_1, .inl (cA_1, 4, .inl (upd (upd (upd (upd (fun _ => 0) (0 : Int32).toNatClampNeg p0) (1 : Int32).toNatClampNeg p1) (2 : Int32).toNatClampNeg p2) (3 : Int32).toNatClampNeg p3))), (g0, .inr (16, [.ref mj, .ref mq, .ref mm, .ref ms, .ref mf, .ref ml, .int 0, .int 0, .int 1, .int 0, .int (-1), .int 0, .int 0, .int 0, .int 0, .int 0, .long 0]))] := hD
    have hK : va_K (dC, dI) vwCl [(cI, .int), (cA_1, .int)] s := hK
    refine W.widen (k := 1) (n := 4) (Nat.le_of_ble_eq_true rfl) (Nat.le_of_ble_eq_true rfl) ?_
    refine lv_if_eq (tgt := 139) hx hb dX11_drawJoint_134 (by decide) (fun _ => ?_) (fun c_9 => absurd (by decide) c_9)
    refine lv_aload_n hx hb dX11_drawJoint_139 rfl (lv_at hl 2 rfl) ?_
    refine va_get (D := (dC, dI)) (ci := 16) (v := .ref mj) (C := RX11) (T := TX11) (N := 17) hx hb hts (fun _ h9 => List.mem_cons_of_mem _ (List.mem_append_right _ (List.mem_append_right _ (List.mem_append_left _ h9)))) hown hK hP 3 rfl rfl 0 (by decide) (hts _ (List.mem_cons_of_mem _ (List.mem_append_left _ (List.mem_of_getElem? (i := 1) rfl)))) (fun _ h9 => h9) rfl dX11_drawJoint_140 ?_
    refine lv_aload hx hb dX11_drawJoint_143 (lv_at hl 1 rfl) ?_
    have hPc := hP.sub (ws' := [(mj, .inr (4, [.int 0, .ref e0, .int 0])), (q_1, .inl (cA_1, 4, .inl (upd (upd (upd (upd (fun _ => 0) (0 : Int32).toNatClampNeg p0) (1 : Int32).toNatClampNeg p1) (2 : Int32).toNatClampNeg p2) (3 : Int32).toNatClampNeg p3)))]) [0, 2] rfl
    have hDc := hD.sub (ws' := [(mj, .inr (4, [.int 0, .ref e0, .int 0])), (q_1, .inl (cA_1, 4, .inl (upd (upd (upd (upd (fun _ => 0) (0 : Int32).toNatClampNeg p0) (1 : Int32).toNatClampNeg p1) (2 : Int32).toNatClampNeg p2) (3 : Int32).toNatClampNeg p3)))]) [0, 2] (by decide) rfl
    have hKc := hK.sub (tys' := [(cA_1, .int)]) [1] rfl
    have hFc := va_free (wc := [(mj, .inr (4, [.int 0, .ref e0, .int 0])), (q_1, .inl (cA_1, 4, .inl (upd (upd (upd (upd (fun _ => 0) (0 : Int32).toNatClampNeg p0) (1 : Int32).toNatClampNeg p1) (2 : Int32).toNatClampNeg p2) (3 : Int32).toNatClampNeg p3)))]) hD hS hA [0, 2] rfl
    refine va_callFi (va_runF (As := [.ref q_1]) (rest := []) (hK.1 4 _ rfl).2 ⟨hx, hb, hml, hown, hts⟩ (c_Jx4_addI l dC dI e0 mj q_1 cA_1 (upd (upd (upd (upd (fun _ => 0) (0 : Int32).toNatClampNeg p0) (1 : Int32).toNatClampNeg p1) (2 : Int32).toNatClampNeg p2) (3 : Int32).toNatClampNeg p3) H.size) (va_cwF 1 hts (goodIn_sub (fun _ h9 => List.mem_cons_of_mem _ (List.mem_append_right _ (List.mem_append_right _ (List.mem_append_right _ (List.mem_append_right _ (List.mem_append_right _ (List.mem_append_right _ (List.mem_append_right _ (List.mem_append_left _ h9))))))))) (by decide +kernel)) rfl rfl rfl hAm.1.2.2.2.1.2.2 (by decide +kernel) ⟨(Nat.le_of_ble_eq_true rfl), (Nat.le_of_ble_eq_true rfl)⟩) ⟨fz_blind, va_recv hKc hPc (ci := 4) (q0 := 0) rfl rfl, fz_pre hPc hKc hDc hAm hS hFc⟩ rfl rfl hl.1 rfl (lv_room (Nat.le_of_ble_eq_true rfl)) dX11_drawJoint_145 ⟨(Nat.le_of_ble_eq_true rfl), (Nat.le_of_ble_eq_true rfl)⟩) hS (fun q _ h => hFc q h) hFc (fun r u t H1 locs ht hvm hw hB hz1 hk1 hS => ?_)
    obtain rfl := hw
    obtain ⟨hel_4, hP1, hK1, hD1⟩ := hB
    rw [ht] at hP1
    have hK1 := va_K.moved hvm.symm hK1
    obtain ⟨hP, hD⟩ := va_join (wr := [(mf, .inl (cI, 7, .inl ff)), (g0, .inr (16, [.ref mj, .ref mq, .ref mm, .ref ms, .ref mf, .ref ml, .int 0, .int 0, .int 1, .int 0, .int (-1), .int 0, .int 0, .int 0, .int 0, .int 0, .long 0]))]) (w1 := [(mj, .inr (4, [.int 1, .ref hel_4, .int 1]))]) hP hD [0, 2] [1, 3] rfl rfl (by decide) (by decide) hk1 hFc hP1 hD1
    generalize H1 = H at hP hS ⊢
    have hP : va_P (dC, dI) vwCl [(mf, .inl (cI, 7, .inl ff)), (g0, .inr (16, [.ref mj, .ref mq, .ref mm, .ref ms, .ref mf, .ref ml, .int 0, .int 0, .int 1, .int 0, .int (-1), .int 0, .int 0, .int 0, .int 0, .int 0, .long 0])), (mj, .inr (4, [.int 1, .ref hel_4, .int 1]))] H := hP
    have hD : va_D A [(mf, .inl (cI, 7, .inl ff)), (g0, .inr (16, [.ref mj, .ref mq, .ref mm, .ref ms, .ref mf, .ref ml, .int 0, .int 0, .int 1, .int 0, .int (-1), .int 0, .int 0, .int 0, .int 0, .int 0, .long 0])), (mj, .inr (4, [.int 1, .ref hel_4, .int 1]))] := hD
    have hK : va_K (dC, dI) vwCl [(cI, .int), (cA_1, .int)] s := hK
    refine W.widen (k := 2) (n := 14) (Nat.le_of_ble_eq_true rfl) (Nat.le_of_ble_eq_true rfl) ?_
    refine lv_pop hx hb dX11_drawJoint_150 rfl ?_
    refine lv_aload_n hx hb dX11_drawJoint_151 rfl (lv_at hl 2 rfl) ?_
    refine lv_dup hx hb dX11_drawJoint_152 rfl ?_
    refine va_get (D := (dC, dI)) (ci := 16) (v := .int 0) (C := RX11) (T := TX11) (N := 17) hx hb hts (fun _ h9 => List.mem_cons_of_mem _ (List.mem_append_right _ (List.mem_append_right _ (List.mem_append_left _ h9)))) hown hK hP 1 rfl rfl 7 (by decide) (hts _ (List.mem_cons_of_mem _ (List.mem_append_left _ (List.mem_of_getElem? (i := 2) rfl)))) (fun _ h9 => h9) rfl dX11_drawJoint_153 ?_
    refine lv_iconst (v := 1) hx hb dX11_drawJoint_156 (by decide) ?_
    refine lv_iadd hx hb dX11_drawJoint_157 ?_
    refine lv_topi (fun z_9 e_9 => ?_)
    obtain rfl : 1 = z_9 := (e_9.trans (by decide)).symm
    refine va_put (D := (dC, dI)) (ci := 16) (v := .int 1) (ty := .int) (C := RX11) (T := TX11) (N := 17) hx hb hts (fun _ h9 => List.mem_cons_of_mem _ (List.mem_append_right _ (List.mem_append_right _ (List.mem_append_left _ h9)))) tyX11 tyX11_ok nmX11 hown hK hP hD hS 1 rfl rfl 7 (by decide) (hts _ (List.mem_cons_of_mem _ (List.mem_append_left _ (List.mem_of_getElem? (i := 2) rfl)))) (fun _ h9 => h9) rfl (by decide +kernel) rfl rfl (Nat.le_of_ble_eq_true rfl) dX11_drawJoint_158 (fun H locs hP hD hS => ?_)
    have hP : va_P (dC, dI) vwCl [(mf, .inl (cI, 7, .inl ff)), (g0, .inr (16, [.ref mj, .ref mq, .ref mm, .ref ms, .ref mf, .ref ml, .int 0, .int 1, .int 1, .int 0, .int (-1), .int 0, .int 0, .int 0, .int 0, .int 0, .long 0])), (mj, .inr (4, [.int 1, .ref hel_4, .int 1]))] H := hP
    have hD : va_D A [(mf, .inl (cI, 7, .inl ff)), (g0, .inr (16, [.ref mj, .ref mq, .ref mm, .ref ms, .ref mf, .ref ml, .int 0, .int 1, .int 1, .int 0, .int (-1), .int 0, .int 0, .int 0, .int 0, .int 0, .long 0])), (mj, .inr (4, [.int 1, .ref hel_4, .int 1]))] := hD
    refine lv_aload_n hx hb dX11_drawJoint_161 rfl (lv_at hl 2 rfl) ?_
    refine va_get (D := (dC, dI)) (ci := 16) (v := .ref mj) (C := RX11) (T := TX11) (N := 17) hx hb hts (fun _ h9 => List.mem_cons_of_mem _ (List.mem_append_right _ (List.mem_append_right _ (List.mem_append_left _ h9)))) hown hK hP 1 rfl rfl 0 (by decide) (hts _ (List.mem_cons_of_mem _ (List.mem_append_left _ (List.mem_of_getElem? (i := 1) rfl)))) (fun _ h9 => h9) rfl dX11_drawJoint_162 ?_
    have hPc := hP.sub (ws' := [(mj, .inr (4, [.int 1, .ref hel_4, .int 1]))]) [2] rfl
    have hDc := hD.sub (ws' := [(mj, .inr (4, [.int 1, .ref hel_4, .int 1]))]) [2] (by decide) rfl
    have hKc := hK.sub (tys' := []) [] rfl
    have hFc : ∀ q : Nat, H.size ≤ q → A q := fun q h => hA q (Nat.le_trans hS.1 h)
    refine va_callFi (va_runF (As := []) (rest := []) (hK.1 4 _ rfl).2 ⟨hx, hb, hml, hown, hts⟩ (c_Jx4_size l dC dI e0 mj 1 hel_4 1 H.size) (va_cwF 0 hts (goodIn_sub (fun _ h9 => List.mem_cons_of_mem _ (List.mem_append_right _ (List.mem_append_right _ (List.mem_append_right _ (List.mem_append_right _ (List.mem_append_right _ (List.mem_append_right _ (List.mem_append_left _ h9)))))))) (by decide +kernel)) rfl rfl rfl hAm.1.2.2.2.1.2.1 (by decide +kernel) ⟨(Nat.le_of_ble_eq_true rfl), (Nat.le_of_ble_eq_true rfl)⟩) ⟨fz_blind, va_recv hKc hPc (ci := 4) (q0 := 0) rfl rfl, fz_pre hPc hKc hDc hAm hS hFc⟩ rfl rfl hl.1 rfl (lv_room (Nat.le_of_ble_eq_true rfl)) dX11_drawJoint_165 ⟨(Nat.le_of_ble_eq_true rfl), (Nat.le_of_ble_eq_true rfl)⟩) hS (fun q _ h => hFc q h) hFc (fun r u t H1 locs ht hvm hw hB hz1 hk1 hS => ?_)
    obtain rfl := hw
    have hP := fz_keep hP hk1
    generalize H1 = H at hP hS ⊢
    have hP : va_P (dC, dI) vwCl [(mf, .inl (cI, 7, .inl ff)), (g0, .inr (16, [.ref mj, .ref mq, .ref mm, .ref ms, .ref mf, .ref ml, .int 0, .int 1, .int 1, .int 0, .int (-1), .int 0, .int 0, .int 0, .int 0, .int 0, .long 0])), (mj, .inr (4, [.int 1, .ref hel_4, .int 1]))] H := hP
    have hD : va_D A [(mf, .inl (cI, 7, .inl ff)), (g0, .inr (16, [.ref mj, .ref mq, .ref mm, .ref ms, .ref mf, .ref ml, .int 0, .int 1, .int 1, .int 0, .int (-1), .int 0, .int 0, .int 0, .int 0, .int 0, .long 0])), (mj, .inr (4, [.int 1, .ref hel_4, .int 1]))] := hD
    refine W.widen (k := 2) (n := 14) (Nat.le_of_ble_eq_true rfl) (Nat.le_of_ble_eq_true rfl) ?_
    refine lv_iconst (v := 1) hx hb dX11_drawJoint_170 (by decide) ?_
    refine lv_isub hx hb dX11_drawJoint_171 ?_
    refine lv_topi (fun z_9 e_9 => ?_)
    obtain rfl : 0 = z_9 := (e_9.trans (by decide)).symm
    have hP9 := hP.sub (ws' := [(g0, .inr (16, [.ref mj, .ref mq, .ref mm, .ref ms, .ref mf, .ref ml, .int 0, .int 1, .int 1, .int 0, .int (-1), .int 0, .int 0, .int 0, .int 0, .int 0, .long 0]))]) [1] rfl
    have hD9 := hD.sub (ws' := [(g0, .inr (16, [.ref mj, .ref mq, .ref mm, .ref ms, .ref mf, .ref ml, .int 0, .int 1, .int 1, .int 0, .int (-1), .int 0, .int 0, .int 0, .int 0, .int 0, .long 0]))]) [1] (by decide) rfl
    have hK9 := hK.sub (tys' := []) [] rfl
    refine W.widen (k := 2) (n := 14) (Nat.le_of_ble_eq_true rfl) (Nat.le_of_ble_eq_true rfl) ?_
    exact W.iret (v := 0) hx hb hr (fun t ht hW => ⟨⟨0, 0, rfl, Or.inl (⟨rfl, rfl, hp_2⟩), ⟨1, by rw [ht]; exact hP9, va_K.moved hW.alike hK9, hD9⟩⟩, hS.F ht⟩) hS.2.2 dX11_drawJoint_172
  · have hP := fz_keep hP hk1
    generalize H1 = H at hP hS ⊢
    have hP : va_P (dC, dI) vwCl [(g0, .inr (16, [.ref mj, .ref mq, .ref mm, .ref ms, .ref mf, .ref ml, .int 0, .int 0, .int 1, .int 0, .int (-1), .int 0, .int 0, .int 0, .int 0, .int 0, .long 0])), (mj, .inr (4, [.int 0, .ref e0, .int 0])), (mf, .inl (cI, 7, .inl ff)), (q_1, .inl (cA_1, 4, .inl (upd (upd (upd (upd (fun _ => 0) (0 : Int32).toNatClampNeg p0) (1 : Int32).toNatClampNeg p1) (2 : Int32).toNatClampNeg p2) (3 : Int32).toNatClampNeg p3)))] H := hP
    have hD : va_D A [(g0, .inr (16, [.ref mj, .ref mq, .ref mm, .ref ms, .ref mf, .ref ml, .int 0, .int 0, .int 1, .int 0, .int (-1), .int 0, .int 0, .int 0, .int 0, .int 0, .long 0])), (mj, .inr (4, [.int 0, .ref e0, .int 0])), (mf, .inl (cI, 7, .inl ff)), (q_1, .inl (cA_1, 4, .inl (upd (upd (upd (upd (fun _ => 0) (0 : Int32).toNatClampNeg p0) (1 : Int32).toNatClampNeg p1) (2 : Int32).toNatClampNeg p2) (3 : Int32).toNatClampNeg p3)))] := hD
    refine W.widen (k := 1) (n := 4) (Nat.le_of_ble_eq_true rfl) (Nat.le_of_ble_eq_true rfl) ?_
    refine lv_if_eq (tgt := 77) hx hb dX11_drawJoint_27 (by decide) (fun _ => ?_) (fun c_9 => absurd (by decide) c_9)
    refine lv_iconst (v := 0) hx hb dX11_drawJoint_77 (by decide) ?_
    refine lv_istore (lv' := [(6, .int 0), (5, .ref q_1), (0, .ref g0), (1, .int p0), (2, .int p1), (3, .int p2), (4, .int p3)]) hx hb dX11_drawJoint_78 hl (by decide) rfl (fun ls hl => ?_)
    refine lv_aload_n hx hb dX11_drawJoint_80 rfl (lv_at hl 2 rfl) ?_
    refine lv_iload hx hb dX11_drawJoint_81 (lv_at hl 0 rfl) ?_
    refine lv_iconst (v := 1) hx hb dX11_drawJoint_83 (by decide) ?_
    have hPc := hP.sub (ws' := [(g0, .inr (16, [.ref mj, .ref mq, .ref mm, .ref ms, .ref mf, .ref ml, .int 0, .int 0, .int 1, .int 0, .int (-1), .int 0, .int 0, .int 0, .int 0, .int 0, .long 0]))]) [0] rfl
    have hDc := hD.sub (ws' := [(g0, .inr (16, [.ref mj, .ref mq, .ref mm, .ref ms, .ref mf, .ref ml, .int 0, .int 0, .int 1, .int 0, .int (-1), .int 0, .int 0, .int 0, .int 0, .int 0, .long 0]))]) [0] (by decide) rfl
    have hKc := hK.sub (tys' := []) [] rfl
    have hFc := va_free (wc := [(g0, .inr (16, [.ref mj, .ref mq, .ref mm, .ref ms, .ref mf, .ref ml, .int 0, .int 0, .int 1, .int 0, .int (-1), .int 0, .int 0, .int 0, .int 0, .int 0, .long 0]))]) hD hS hA [0] rfl
    refine va_calli (va_runV (As := [.int 0, .int 1]) (rest := []) ⟨hx, hb, hml, hown, hts⟩ (c_X11_no0 l dC dI e0 g0 1 mj mq mm ms mf ml 0 H.size) (cwV 2 hts (goodIn_sub (fun _ h9 => List.mem_cons_of_mem _ (List.mem_append_right _ (List.mem_append_right _ (List.mem_append_right _ (List.mem_append_right _ (List.mem_append_right _ (List.mem_append_right _ (List.mem_append_right _ (List.mem_append_right _ h9))))))))) (by decide +kernel)) rfl rfl rfl (by decide +kernel) ⟨(Nat.le_of_ble_eq_true rfl), (Nat.le_of_ble_eq_true rfl)⟩) ⟨fz_blind, va_recv hKc hPc (ci := 16) (q0 := 0) rfl rfl, fz_pre hPc hKc hDc hAm hS hFc⟩ rfl rfl hl.1 rfl (lv_room (Nat.le_of_ble_eq_true rfl)) dX11_drawJoint_84 ⟨(Nat.le_of_ble_eq_true rfl), (Nat.le_of_ble_eq_true rfl)⟩) hS (fun q _ h => hFc q h) hFc (fun r u t H1 locs ht hvm hw hB hz1 hk1 hS => ?_)
    obtain rfl := hw
    obtain ⟨hP1, hK1, hD1⟩ := hB
    rw [ht] at hP1
    have hK1 := va_K.moved hvm.symm hK1
    obtain ⟨hP, hD⟩ := va_join (wr := [(mj, .inr (4, [.int 0, .ref e0, .int 0])), (mf, .inl (cI, 7, .inl ff)), (q_1, .inl (cA_1, 4, .inl (upd (upd (upd (upd (fun _ => 0) (0 : Int32).toNatClampNeg p0) (1 : Int32).toNatClampNeg p1) (2 : Int32).toNatClampNeg p2) (3 : Int32).toNatClampNeg p3)))]) (w1 := [(g0, .inr (16, [.ref mj, .ref mq, .ref mm, .ref ms, .ref mf, .ref ml, .int 1, .int 0, .int 1, .int 0, .int (-1), .int 0, .int 0, .int 0, .int 0, .int 0, .long 0]))]) hP hD [0] [1, 2, 3] rfl rfl (by decide) (by decide) hk1 hFc hP1 hD1
    generalize H1 = H at hP hS ⊢
    have hP : va_P (dC, dI) vwCl [(mj, .inr (4, [.int 0, .ref e0, .int 0])), (mf, .inl (cI, 7, .inl ff)), (q_1, .inl (cA_1, 4, .inl (upd (upd (upd (upd (fun _ => 0) (0 : Int32).toNatClampNeg p0) (1 : Int32).toNatClampNeg p1) (2 : Int32).toNatClampNeg p2) (3 : Int32).toNatClampNeg p3))), (g0, .inr (16, [.ref mj, .ref mq, .ref mm, .ref ms, .ref mf, .ref ml, .int 1, .int 0, .int 1, .int 0, .int (-1), .int 0, .int 0, .int 0, .int 0, .int 0, .long 0]))] H := hP
    have hD : va_D A [(mj, .inr (4, [.int 0, .ref e0, .int 0])), (mf, .inl (cI, 7, .inl ff)), (q_1, .inl (cA_1, 4, .inl (upd (upd (upd (upd (fun _ => 0) (0 : Int32).toNatClampNeg p0) (1 : Int32).toNatClampNeg p1) (2 : Int32).toNatClampNeg p2) (3 : Int32).toNatClampNeg p3))), (g0, .inr (16, [.ref mj, .ref mq, .ref mm, .ref ms, .ref mf, .ref ml, .int 1, .int 0, .int 1, .int 0, .int (-1), .int 0, .int 0, .int 0, .int 0, .int 0, .long 0]))] := hD
    have hK : va_K (dC, dI) vwCl [(cI, .int), (cA_1, .int)] s := hK
    refine W.widen (k := 1) (n := 4) (Nat.le_of_ble_eq_true rfl) (Nat.le_of_ble_eq_true rfl) ?_
    refine lv_if_ne (tgt := 137) hx hb dX11_drawJoint_87 (by decide) (fun _ => ?_) (fun c_9 => absurd c_9 (by decide))
    refine lv_iconst (v := 0) hx hb dX11_drawJoint_137 (by decide) ?_
    have hP9 := hP.sub (ws' := [(g0, .inr (16, [.ref mj, .ref mq, .ref mm, .ref ms, .ref mf, .ref ml, .int 1, .int 0, .int 1, .int 0, .int (-1), .int 0, .int 0, .int 0, .int 0, .int 0, .long 0]))]) [3] rfl
    have hD9 := hD.sub (ws' := [(g0, .inr (16, [.ref mj, .ref mq, .ref mm, .ref ms, .ref mf, .ref ml, .int 1, .int 0, .int 1, .int 0, .int (-1), .int 0, .int 0, .int 0, .int 0, .int 0, .long 0]))]) [3] (by decide) rfl
    have hK9 := hK.sub (tys' := []) [] rfl
    refine W.widen (k := 2) (n := 14) (Nat.le_of_ble_eq_true rfl) (Nat.le_of_ble_eq_true rfl) ?_
    exact W.iret (v := 0) hx hb hr (fun t ht hW => ⟨⟨0, 1, rfl, Or.inr (⟨rfl, rfl, hp_3⟩), ⟨0, by rw [ht]; exact hP9, va_K.moved hW.alike hK9, hD9⟩⟩, hS.F ht⟩) hS.2.2 dX11_drawJoint_138
def v_c_X11_moveJoint : List Cond := .code yX11_moveJoint cX11_moveJoint 9 (some .int) :: ([.fieldLink RX11 10 "VoussoirYardModel" "joints" "Ljava/util/List;"] ++ (wsX110 ++ (va_wsF RX11 42 RJx4a65c ⟨"java/util/List", "size", "()I"⟩ yJx4a65c_size_8abf5 v_c_Jx4_size ++ (wsS RX11 57 yX11_isIn v_c_X11_isIn ++ (wsV RX11 65 RX11 yX11_no v_c_X11_no0)))))
set_option maxRecDepth 20000 in
theorem i_c_X11_moveJoint : ∀ w ∈ v_c_X11_moveJoint, w ∈ lw_tbl := List.forall_mem_cons.mpr ⟨List.mem_of_getElem? (i := 1505) (by decide +kernel), List.forall_mem_append.mpr ⟨List.forall_mem_cons.mpr ⟨List.mem_of_getElem? (i := 1324) (by decide +kernel), fun _ h => absurd h List.not_mem_nil⟩, List.forall_mem_append.mpr ⟨inX11, List.forall_mem_append.mpr ⟨(by unfold va_wsF; exact List.forall_mem_append.mpr ⟨List.forall_mem_cons.mpr ⟨List.mem_of_getElem? (i := 1402) (by decide +kernel), List.forall_mem_cons.mpr ⟨List.mem_of_getElem? (i := 1405) (by decide +kernel), List.forall_mem_cons.mpr ⟨List.mem_of_getElem? (i := 1407) (by decide +kernel), List.forall_mem_cons.mpr ⟨List.mem_of_getElem? (i := 57) (by decide +kernel), fun _ h => absurd h List.not_mem_nil⟩⟩⟩⟩, i_c_Jx4_size⟩), List.forall_mem_append.mpr ⟨(by unfold wsS; exact List.forall_mem_append.mpr ⟨List.forall_mem_cons.mpr ⟨List.mem_of_getElem? (i := 1388) (by decide +kernel), List.forall_mem_cons.mpr ⟨List.mem_of_getElem? (i := 1389) (by decide +kernel), List.forall_mem_cons.mpr ⟨List.mem_of_getElem? (i := 54) (by decide +kernel), fun _ h => absurd h List.not_mem_nil⟩⟩⟩, i_c_X11_isIn⟩), (by unfold wsV; exact List.forall_mem_append.mpr ⟨List.forall_mem_cons.mpr ⟨List.mem_of_getElem? (i := 1434) (by decide +kernel), List.forall_mem_cons.mpr ⟨List.mem_of_getElem? (i := 1436) (by decide +kernel), List.forall_mem_cons.mpr ⟨List.mem_of_getElem? (i := 25) (by decide +kernel), List.forall_mem_cons.mpr ⟨List.mem_of_getElem? (i := 54) (by decide +kernel), fun _ h => absurd h List.not_mem_nil⟩⟩⟩⟩, i_c_X11_no0⟩)⟩⟩⟩⟩⟩
set_option maxHeartbeats 4000000 in
set_option maxRecDepth 100000 in
theorem c_X11_moveJoint (l : Launch) (dC : Nat → ClassId) (dI : Nat → Nat → Nat) (e0 : Nat) (g0 : Nat) (p0 p1 p2 p3 p4 : Int32) (mj mq mm ms mf ml : Nat) (sz : Nat) : Met l yX11_moveJoint v_c_X11_moveJoint ({ frames := 1, cells := 0, slots := 0, locals := 25 }) (fz_P (dC, dI) e0 [(g0, .inr (16, [.ref mj, .ref mq, .ref mm, .ref ms, .ref mf, .ref ml, .int 0, .int 0, .int 1, .int 0, .int (-1), .int 0, .int 0, .int 0, .int 0, .int 0, .long 0])), (mj, .inr (4, [.int 0, .ref e0, .int 0]))] [] sz (va_A [(g0, .inr (16, [.ref mj, .ref mq, .ref mm, .ref ms, .ref mf, .ref ml, .int 0, .int 0, .int 1, .int 0, .int (-1), .int 0, .int 0, .int 0, .int 0, .int 0, .long 0])), (mj, .inr (4, [.int 0, .ref e0, .int 0]))] sz) [.ref g0, .int p0, .int p1, .int p2, .int p3, .int p4]) (va_Qi (fun (r : Int32) (u : Unit) => r = 0) (fun (u : Unit) (t : State) => va_P (dC, dI) vwCl [(g0, .inr (16, [.ref mj, .ref mq, .ref mm, .ref ms, .ref mf, .ref ml, .int 1, .int 0, .int 1, .int 0, .int (-1), .int 0, .int 0, .int 0, .int 0, .int 0, .long 0]))] t.heap ∧ va_K (dC, dI) vwCl [] t ∧ va_D (va_A [(g0, .inr (16, [.ref mj, .ref mq, .ref mm, .ref ms, .ref mf, .ref ml, .int 0, .int 0, .int 1, .int 0, .int (-1), .int 0, .int 0, .int 0, .int 0, .int 0, .long 0])), (mj, .inr (4, [.int 0, .ref e0, .int 0]))] sz) [(g0, .inr (16, [.ref mj, .ref mq, .ref mm, .ref ms, .ref mf, .ref ml, .int 1, .int 0, .int 1, .int 0, .int (-1), .int 0, .int 0, .int 0, .int 0, .int 0, .long 0]))]) (va_A [(g0, .inr (16, [.ref mj, .ref mq, .ref mm, .ref ms, .ref mf, .ref ml, .int 0, .int 0, .int 1, .int 0, .int (-1), .int 0, .int 0, .int 0, .int 0, .int 0, .long 0])), (mj, .inr (4, [.int 0, .ref e0, .int 0]))] sz)) 0 0 (va_A [(g0, .inr (16, [.ref mj, .ref mq, .ref mm, .ref ms, .ref mf, .ref ml, .int 0, .int 0, .int 1, .int 0, .int (-1), .int 0, .int 0, .int 0, .int 0, .int 0, .long 0])), (mj, .inr (4, [.int 0, .ref e0, .int 0]))] sz) := by
  refine Met.ofW (cc := cX11_moveJoint) (maxL := 9) (ret := (some .int)) (by decide) rfl ?_
  intro p e s m args below meth c s₁ B hml hv
  obtain ⟨rfl, hsz, hP, hK, hD0, hAm⟩ := hv
  have hx := B.exec
  have hb := B.bytes
  have hr := B.returns
  have hts := atoms_spec (ws := v_c_X11_moveJoint) B.pre
  have hown : s.vm.findClass RX11 = some m.cls := findClass_of_methodNamed B.named
  have hlocks := B.notSynchronized
  subst hsz
  have hD := hD0.self (sz := s.heap.size)
  generalize hAe : va_A [(g0, .inr (16, [.ref mj, .ref mq, .ref mm, .ref ms, .ref mf, .ref ml, .int 0, .int 0, .int 1, .int 0, .int (-1), .int 0, .int 0, .int 0, .int 0, .int 0, .long 0])), (mj, .inr (4, [.int 0, .ref e0, .int 0]))] s.heap.size = A at hD hAm ⊢
  have hA : ∀ q : Nat, s.heap.size ≤ q → A q := fun q h => by rw [← hAe]; exact Or.inr h
  have hS : va_S A s.heap s.heap [] := va_S.rf
  have hP : va_P (dC, dI) vwCl [(g0, .inr (16, [.ref mj, .ref mq, .ref mm, .ref ms, .ref mf, .ref ml, .int 0, .int 0, .int 1, .int 0, .int (-1), .int 0, .int 0, .int 0, .int 0, .int 0, .long 0])), (mj, .inr (4, [.int 0, .ref e0, .int 0]))] s.heap := hP
  have hl := lv_entry ([.ref g0, .int p0, .int p1, .int p2, .int p3, .int p4]) (n := 9) (Nat.le_of_ble_eq_true rfl)
  rw [lg_entry_eq]
  generalize (lg_sl ([.ref g0, .int p0, .int p1, .int p2, .int p3, .int p4]) ++ List.replicate (9 - (lg_sl ([.ref g0, .int p0, .int p1, .int p2, .int p3, .int p4])).length) Slot.unset).toArray = ls at hl ⊢
  have hl : lv_has ls 9 [(0, .ref g0), (1, .int p0), (2, .int p1), (3, .int p2), (4, .int p3), (5, .int p4)] := hl
  refine lv_aload_n hx hb dX11_moveJoint_0 rfl (lv_at hl 0 rfl) ?_
  refine lv_iload_n hx hb dX11_moveJoint_1 rfl (lv_at hl 1 rfl) ?_
  refine lv_i2l (v := p0.toInt64) hx hb dX11_moveJoint_2 rfl ?_
  refine lv_lconst (v := (0 : Int32).toInt64) hx hb dX11_moveJoint_3 (by decide) ?_
  refine lv_aload_n hx hb dX11_moveJoint_4 rfl (lv_at hl 0 rfl) ?_
  refine va_get (D := (dC, dI)) (ci := 16) (v := .ref mj) (C := RX11) (T := TX11) (N := 17) hx hb hts (fun _ h9 => List.mem_cons_of_mem _ (List.mem_append_right _ (List.mem_append_left _ h9))) hown hK hP 0 rfl rfl 0 (by decide) (hts _ (List.mem_cons_of_mem _ (List.mem_append_left _ (List.mem_of_getElem? (i := 0) rfl)))) (fun _ h9 => h9) rfl dX11_moveJoint_5 ?_
  have hPc := hP.sub (ws' := [(mj, .inr (4, [.int 0, .ref e0, .int 0]))]) [1] rfl
  have hDc := hD.sub (ws' := [(mj, .inr (4, [.int 0, .ref e0, .int 0]))]) [1] (by decide) rfl
  have hKc := hK.sub (tys' := []) [] rfl
  have hFc : ∀ q : Nat, s.heap.size ≤ q → A q := fun q h => hA q (Nat.le_trans hS.1 h)
  refine va_callFi (va_runF (As := []) (rest := [.long ((0 : Int32).toInt64), .long p0.toInt64, .ref g0]) (hK.1 4 _ rfl).2 ⟨hx, hb, hml, hown, hts⟩ (c_Jx4_size l dC dI e0 mj 0 e0 0 s.heap.size) (va_cwF 0 hts (goodIn_sub (fun _ h9 => List.mem_cons_of_mem _ (List.mem_append_right _ (List.mem_append_right _ (List.mem_append_left _ h9)))) (by decide +kernel)) rfl rfl rfl hAm.1.2.2.2.1.2.1 (by decide +kernel) ⟨(Nat.le_of_ble_eq_true rfl), (Nat.le_of_ble_eq_true rfl)⟩) ⟨fz_blind, va_recv hKc hPc (ci := 4) (q0 := 0) rfl rfl, fz_pre hPc hKc hDc hAm hS hFc⟩ rfl rfl hl.1 rfl (lv_room (Nat.le_of_ble_eq_true rfl)) dX11_moveJoint_8 ⟨(Nat.le_of_ble_eq_true rfl), (Nat.le_of_ble_eq_true rfl)⟩) hS (fun q _ h => hFc q h) hFc (fun r u t H1 locs ht hvm hw hB hz1 hk1 hS => ?_)
  obtain rfl := hw
  have hP := fz_keep hP hk1
  generalize H1 = H at hP hS ⊢
  have hP : va_P (dC, dI) vwCl [(g0, .inr (16, [.ref mj, .ref mq, .ref mm, .ref ms, .ref mf, .ref ml, .int 0, .int 0, .int 1, .int 0, .int (-1), .int 0, .int 0, .int 0, .int 0, .int 0, .long 0])), (mj, .inr (4, [.int 0, .ref e0, .int 0]))] H := hP
  have hD : va_D A [(g0, .inr (16, [.ref mj, .ref mq, .ref mm, .ref ms, .ref mf, .ref ml, .int 0, .int 0, .int 1, .int 0, .int (-1), .int 0, .int 0, .int 0, .int 0, .int 0, .long 0])), (mj, .inr (4, [.int 0, .ref e0, .int 0]))] := hD
  refine W.widen (k := 0) (n := 0) (Nat.le_of_ble_eq_true rfl) (Nat.le_of_ble_eq_true rfl) ?_
  refine lv_iconst (v := 1) hx hb dX11_moveJoint_13 (by decide) ?_
  refine lv_isub hx hb dX11_moveJoint_14 ?_
  refine lv_topi (fun z_9 e_9 => ?_)
  obtain rfl : (-1) = z_9 := (e_9.trans (by decide)).symm
  refine lv_i2l (v := ((-1) : Int32).toInt64) hx hb dX11_moveJoint_15 rfl ?_
  have hPc := hP.sub (ws' := []) [] rfl
  have hDc := hD.sub (ws' := []) [] (by decide) rfl
  have hKc := hK.sub (tys' := []) [] rfl
  have hFc : ∀ q : Nat, H.size ≤ q → A q := fun q h => hA q (Nat.le_trans hS.1 h)
  refine va_calli (va_runS (As := [.long p0.toInt64, .long ((0 : Int32).toInt64), .long (((-1) : Int32).toInt64)]) (rest := [.ref g0]) ⟨hx, hb, hml, hown, hts⟩ (c_X11_isIn l dC dI e0 p0 0 (-1) H.size) (cwS 3 hts (goodIn_sub (fun _ h9 => List.mem_cons_of_mem _ (List.mem_append_right _ (List.mem_append_right _ (List.mem_append_right _ (List.mem_append_left _ h9))))) (by decide +kernel)) rfl rfl rfl (by decide +kernel) ⟨(Nat.le_of_ble_eq_true rfl), (Nat.le_of_ble_eq_true rfl)⟩) ⟨fz_blind, fz_pre hPc hKc hDc hAm hS hFc⟩ rfl rfl hl.1 rfl (lv_room (Nat.le_of_ble_eq_true rfl)) dX11_moveJoint_16 ⟨(Nat.le_of_ble_eq_true rfl), (Nat.le_of_ble_eq_true rfl)⟩) hS (fun q _ h => hFc q h) hFc (fun r u t H1 locs ht hvm hw hB hz1 hk1 hS => ?_)
  rcases hw with ⟨rfl, hp_1⟩ | ⟨rfl, hp_2⟩
  · exact absurd hp_1 (fz_in_no _)
  · have hP := fz_keep hP hk1
    generalize H1 = H at hP hS ⊢
    have hP : va_P (dC, dI) vwCl [(g0, .inr (16, [.ref mj, .ref mq, .ref mm, .ref ms, .ref mf, .ref ml, .int 0, .int 0, .int 1, .int 0, .int (-1), .int 0, .int 0, .int 0, .int 0, .int 0, .long 0])), (mj, .inr (4, [.int 0, .ref e0, .int 0]))] H := hP
    have hD : va_D A [(g0, .inr (16, [.ref mj, .ref mq, .ref mm, .ref ms, .ref mf, .ref ml, .int 0, .int 0, .int 1, .int 0, .int (-1), .int 0, .int 0, .int 0, .int 0, .int 0, .long 0])), (mj, .inr (4, [.int 0, .ref e0, .int 0]))] := hD
    refine W.widen (k := 0) (n := 0) (Nat.le_of_ble_eq_true rfl) (Nat.le_of_ble_eq_true rfl) ?_
    refine lv_iconst (v := 1) hx hb dX11_moveJoint_19 (by decide) ?_
    have hPc := hP.sub (ws' := [(g0, .inr (16, [.ref mj, .ref mq, .ref mm, .ref ms, .ref mf, .ref ml, .int 0, .int 0, .int 1, .int 0, .int (-1), .int 0, .int 0, .int 0, .int 0, .int 0, .long 0]))]) [0] rfl
    have hDc := hD.sub (ws' := [(g0, .inr (16, [.ref mj, .ref mq, .ref mm, .ref ms, .ref mf, .ref ml, .int 0, .int 0, .int 1, .int 0, .int (-1), .int 0, .int 0, .int 0, .int 0, .int 0, .long 0]))]) [0] (by decide) rfl
    have hKc := hK.sub (tys' := []) [] rfl
    have hFc := va_free (wc := [(g0, .inr (16, [.ref mj, .ref mq, .ref mm, .ref ms, .ref mf, .ref ml, .int 0, .int 0, .int 1, .int 0, .int (-1), .int 0, .int 0, .int 0, .int 0, .int 0, .long 0]))]) hD hS hA [0] rfl
    refine va_calli (va_runV (As := [.int 0, .int 1]) (rest := []) ⟨hx, hb, hml, hown, hts⟩ (c_X11_no0 l dC dI e0 g0 1 mj mq mm ms mf ml 0 H.size) (cwV 2 hts (goodIn_sub (fun _ h9 => List.mem_cons_of_mem _ (List.mem_append_right _ (List.mem_append_right _ (List.mem_append_right _ (List.mem_append_right _ h9))))) (by decide +kernel)) rfl rfl rfl (by decide +kernel) ⟨(Nat.le_of_ble_eq_true rfl), (Nat.le_of_ble_eq_true rfl)⟩) ⟨fz_blind, va_recv hKc hPc (ci := 16) (q0 := 0) rfl rfl, fz_pre hPc hKc hDc hAm hS hFc⟩ rfl rfl hl.1 rfl (lv_room (Nat.le_of_ble_eq_true rfl)) dX11_moveJoint_20 ⟨(Nat.le_of_ble_eq_true rfl), (Nat.le_of_ble_eq_true rfl)⟩) hS (fun q _ h => hFc q h) hFc (fun r u t H1 locs ht hvm hw hB hz1 hk1 hS => ?_)
    obtain rfl := hw
    obtain ⟨hP1, hK1, hD1⟩ := hB
    rw [ht] at hP1
    have hK1 := va_K.moved hvm.symm hK1
    obtain ⟨hP, hD⟩ := va_join (wr := [(mj, .inr (4, [.int 0, .ref e0, .int 0]))]) (w1 := [(g0, .inr (16, [.ref mj, .ref mq, .ref mm, .ref ms, .ref mf, .ref ml, .int 1, .int 0, .int 1, .int 0, .int (-1), .int 0, .int 0, .int 0, .int 0, .int 0, .long 0]))]) hP hD [0] [1] rfl rfl (by decide) (by decide) hk1 hFc hP1 hD1
    generalize H1 = H at hP hS ⊢
    have hP : va_P (dC, dI) vwCl [(mj, .inr (4, [.int 0, .ref e0, .int 0])), (g0, .inr (16, [.ref mj, .ref mq, .ref mm, .ref ms, .ref mf, .ref ml, .int 1, .int 0, .int 1, .int 0, .int (-1), .int 0, .int 0, .int 0, .int 0, .int 0, .long 0]))] H := hP
    have hD : va_D A [(mj, .inr (4, [.int 0, .ref e0, .int 0])), (g0, .inr (16, [.ref mj, .ref mq, .ref mm, .ref ms, .ref mf, .ref ml, .int 1, .int 0, .int 1, .int 0, .int (-1), .int 0, .int 0, .int 0, .int 0, .int 0, .long 0]))] := hD
    have hK : va_K (dC, dI) vwCl [] s := hK
    refine W.widen (k := 0) (n := 0) (Nat.le_of_ble_eq_true rfl) (Nat.le_of_ble_eq_true rfl) ?_
    refine lv_if_eq (tgt := 28) hx hb dX11_moveJoint_23 (by decide) (fun c_9 => absurd c_9 (by decide)) (fun _ => ?_)
    refine lv_iconst (v := 0) hx hb dX11_moveJoint_26 (by decide) ?_
    have hP9 := hP.sub (ws' := [(g0, .inr (16, [.ref mj, .ref mq, .ref mm, .ref ms, .ref mf, .ref ml, .int 1, .int 0, .int 1, .int 0, .int (-1), .int 0, .int 0, .int 0, .int 0, .int 0, .long 0]))]) [1] rfl
    have hD9 := hD.sub (ws' := [(g0, .inr (16, [.ref mj, .ref mq, .ref mm, .ref ms, .ref mf, .ref ml, .int 1, .int 0, .int 1, .int 0, .int (-1), .int 0, .int 0, .int 0, .int 0, .int 0, .long 0]))]) [1] (by decide) rfl
    have hK9 := hK.sub (tys' := []) [] rfl
    refine W.widen (k := 0) (n := 0) (Nat.le_of_ble_eq_true rfl) (Nat.le_of_ble_eq_true rfl) ?_
    exact W.iret (v := 0) hx hb hr (fun t ht hW => ⟨⟨0, (), rfl, rfl, ⟨by rw [ht]; exact hP9, va_K.moved hW.alike hK9, hD9⟩⟩, hS.F ht⟩) hS.2.2 dX11_moveJoint_27
def v_c_X11_setDensity : List Cond := .code yX11_setDensity cX11_setDensity 3 (some .int) :: ([.constantLong RX11 106 3, .fieldLink RX11 32 "VoussoirYardModel" "density" "I"] ++ (wsS RX11 57 yX11_isIn v_c_X11_isIn ++ (wsV RX11 65 RX11 yX11_no v_c_X11_no1 ++ (wsV RX11 92 RX11 yX11_standing v_c_X11_standing ++ (wsX110 ++ (wsV RX11 65 RX11 yX11_no v_c_X11_no0))))))
set_option maxRecDepth 20000 in
theorem i_c_X11_setDensity : ∀ w ∈ v_c_X11_setDensity, w ∈ lw_tbl := List.forall_mem_cons.mpr ⟨List.mem_of_getElem? (i := 1518) (by decide +kernel), List.forall_mem_append.mpr ⟨List.forall_mem_cons.mpr ⟨List.mem_of_getElem? (i := 1519) (by decide +kernel), List.forall_mem_cons.mpr ⟨List.mem_of_getElem? (i := 1332) (by decide +kernel), fun _ h => absurd h List.not_mem_nil⟩⟩, List.forall_mem_append.mpr ⟨(by unfold wsS; exact List.forall_mem_append.mpr ⟨List.forall_mem_cons.mpr ⟨List.mem_of_getElem? (i := 1388) (by decide +kernel), List.forall_mem_cons.mpr ⟨List.mem_of_getElem? (i := 1389) (by decide +kernel), List.forall_mem_cons.mpr ⟨List.mem_of_getElem? (i := 54) (by decide +kernel), fun _ h => absurd h List.not_mem_nil⟩⟩⟩, i_c_X11_isIn⟩), List.forall_mem_append.mpr ⟨(by unfold wsV; exact List.forall_mem_append.mpr ⟨List.forall_mem_cons.mpr ⟨List.mem_of_getElem? (i := 1434) (by decide +kernel), List.forall_mem_cons.mpr ⟨List.mem_of_getElem? (i := 1436) (by decide +kernel), List.forall_mem_cons.mpr ⟨List.mem_of_getElem? (i := 25) (by decide +kernel), List.forall_mem_cons.mpr ⟨List.mem_of_getElem? (i := 54) (by decide +kernel), fun _ h => absurd h List.not_mem_nil⟩⟩⟩⟩, i_c_X11_no1⟩), List.forall_mem_append.mpr ⟨(by unfold wsV; exact List.forall_mem_append.mpr ⟨List.forall_mem_cons.mpr ⟨List.mem_of_getElem? (i := 1438) (by decide +kernel), List.forall_mem_cons.mpr ⟨List.mem_of_getElem? (i := 1440) (by decide +kernel), List.forall_mem_cons.mpr ⟨List.mem_of_getElem? (i := 26) (by decide +kernel), List.forall_mem_cons.mpr ⟨List.mem_of_getElem? (i := 54) (by decide +kernel), fun _ h => absurd h List.not_mem_nil⟩⟩⟩⟩, i_c_X11_standing⟩), List.forall_mem_append.mpr ⟨inX11, (by unfold wsV; exact List.forall_mem_append.mpr ⟨List.forall_mem_cons.mpr ⟨List.mem_of_getElem? (i := 1434) (by decide +kernel), List.forall_mem_cons.mpr ⟨List.mem_of_getElem? (i := 1436) (by decide +kernel), List.forall_mem_cons.mpr ⟨List.mem_of_getElem? (i := 25) (by decide +kernel), List.forall_mem_cons.mpr ⟨List.mem_of_getElem? (i := 54) (by decide +kernel), fun _ h => absurd h List.not_mem_nil⟩⟩⟩⟩, i_c_X11_no0⟩)⟩⟩⟩⟩⟩⟩
set_option maxHeartbeats 4000000 in
set_option maxRecDepth 100000 in
theorem c_X11_setDensity (l : Launch) (dC : Nat → ClassId) (dI : Nat → Nat → Nat) (e0 : Nat) (g0 : Nat) (p0 : Int32) (mj mq mm ms mf ml : Nat) (cI : ClassId) (ff : Nat → Int32) (sz : Nat) (hff : ∀ j : Nat, j < 7 → ff j = -1) : Met l yX11_setDensity v_c_X11_setDensity ({ frames := 1, cells := 0, slots := 0, locals := 25 }) (fz_P (dC, dI) e0 [(g0, .inr (16, [.ref mj, .ref mq, .ref mm, .ref ms, .ref mf, .ref ml, .int 0, .int 0, .int 1, .int 0, .int (-1), .int 0, .int 0, .int 0, .int 0, .int 0, .long 0])), (mf, .inl (cI, 7, .inl ff))] [(cI, .int)] sz (va_A [(g0, .inr (16, [.ref mj, .ref mq, .ref mm, .ref ms, .ref mf, .ref ml, .int 0, .int 0, .int 1, .int 0, .int (-1), .int 0, .int 0, .int 0, .int 0, .int 0, .long 0])), (mf, .inl (cI, 7, .inl ff))] sz) [.ref g0, .int p0]) (va_Qi (fun (r : Int32) (u : Int32) => (r = 1 ∧ u = 0 ∧ fz_in p0 1 3) ∨ (r = 0 ∧ u = 1 ∧ ¬ fz_in p0 1 3)) (fun (u : Int32) (t : State) => ∃ vv : Int32, va_P (dC, dI) vwCl [(g0, .inr (16, [.ref mj, .ref mq, .ref mm, .ref ms, .ref mf, .ref ml, .int u, .int 0, .int vv, .int 0, .int (-1), .int 0, .int 0, .int 0, .int 0, .int 0, .long 0]))] t.heap ∧ va_K (dC, dI) vwCl [] t ∧ va_D (va_A [(g0, .inr (16, [.ref mj, .ref mq, .ref mm, .ref ms, .ref mf, .ref ml, .int 0, .int 0, .int 1, .int 0, .int (-1), .int 0, .int 0, .int 0, .int 0, .int 0, .long 0])), (mf, .inl (cI, 7, .inl ff))] sz) [(g0, .inr (16, [.ref mj, .ref mq, .ref mm, .ref ms, .ref mf, .ref ml, .int u, .int 0, .int vv, .int 0, .int (-1), .int 0, .int 0, .int 0, .int 0, .int 0, .long 0]))]) (va_A [(g0, .inr (16, [.ref mj, .ref mq, .ref mm, .ref ms, .ref mf, .ref ml, .int 0, .int 0, .int 1, .int 0, .int (-1), .int 0, .int 0, .int 0, .int 0, .int 0, .long 0])), (mf, .inl (cI, 7, .inl ff))] sz)) 0 0 (va_A [(g0, .inr (16, [.ref mj, .ref mq, .ref mm, .ref ms, .ref mf, .ref ml, .int 0, .int 0, .int 1, .int 0, .int (-1), .int 0, .int 0, .int 0, .int 0, .int 0, .long 0])), (mf, .inl (cI, 7, .inl ff))] sz) := by
  refine Met.ofW (cc := cX11_setDensity) (maxL := 3) (ret := (some .int)) (by decide) rfl ?_
  intro p e s m args below meth c s₁ B hml hv
  obtain ⟨rfl, hsz, hP, hK, hD0, hAm⟩ := hv
  have hx := B.exec
  have hb := B.bytes
  have hr := B.returns
  have hts := atoms_spec (ws := v_c_X11_setDensity) B.pre
  have hown : s.vm.findClass RX11 = some m.cls := findClass_of_methodNamed B.named
  have hlocks := B.notSynchronized
  subst hsz
  have hD := hD0.self (sz := s.heap.size)
  generalize hAe : va_A [(g0, .inr (16, [.ref mj, .ref mq, .ref mm, .ref ms, .ref mf, .ref ml, .int 0, .int 0, .int 1, .int 0, .int (-1), .int 0, .int 0, .int 0, .int 0, .int 0, .long 0])), (mf, .inl (cI, 7, .inl ff))] s.heap.size = A at hD hAm ⊢
  have hA : ∀ q : Nat, s.heap.size ≤ q → A q := fun q h => by rw [← hAe]; exact Or.inr h
  have hS : va_S A s.heap s.heap [] := va_S.rf
  have hP : va_P (dC, dI) vwCl [(g0, .inr (16, [.ref mj, .ref mq, .ref mm, .ref ms, .ref mf, .ref ml, .int 0, .int 0, .int 1, .int 0, .int (-1), .int 0, .int 0, .int 0, .int 0, .int 0, .long 0])), (mf, .inl (cI, 7, .inl ff))] s.heap := hP
  have hl := lv_entry ([.ref g0, .int p0]) (n := 3) (Nat.le_of_ble_eq_true rfl)
  rw [lg_entry_eq]
  generalize (lg_sl ([.ref g0, .int p0]) ++ List.replicate (3 - (lg_sl ([.ref g0, .int p0])).length) Slot.unset).toArray = ls at hl ⊢
  have hl : lv_has ls 3 [(0, .ref g0), (1, .int p0)] := hl
  refine lv_aload_n hx hb dX11_setDensity_0 rfl (lv_at hl 0 rfl) ?_
  refine lv_iload_n hx hb dX11_setDensity_1 rfl (lv_at hl 1 rfl) ?_
  refine lv_i2l (v := p0.toInt64) hx hb dX11_setDensity_2 rfl ?_
  refine lv_lconst (v := (1 : Int32).toInt64) hx hb dX11_setDensity_3 (by decide) ?_
  refine lv_ldc2 (v := 3) hx hb hown (hts _ (List.mem_cons_of_mem _ (List.mem_append_left _ (List.mem_of_getElem? (i := 0) rfl)))) dX11_setDensity_4 ?_
  refine lv_topl (fun z_9 e_9 => ?_)
  obtain rfl : (3 : Int32).toInt64 = z_9 := (e_9.trans (by decide)).symm
  have hPc := hP.sub (ws' := []) [] rfl
  have hDc := hD.sub (ws' := []) [] (by decide) rfl
  have hKc := hK.sub (tys' := []) [] rfl
  have hFc : ∀ q : Nat, s.heap.size ≤ q → A q := fun q h => hA q (Nat.le_trans hS.1 h)
  refine va_calli (va_runS (As := [.long p0.toInt64, .long ((1 : Int32).toInt64), .long ((3 : Int32).toInt64)]) (rest := [.ref g0]) ⟨hx, hb, hml, hown, hts⟩ (c_X11_isIn l dC dI e0 p0 1 3 s.heap.size) (cwS 3 hts (goodIn_sub (fun _ h9 => List.mem_cons_of_mem _ (List.mem_append_right _ (List.mem_append_left _ h9))) (by decide +kernel)) rfl rfl rfl (by decide +kernel) ⟨(Nat.le_of_ble_eq_true rfl), (Nat.le_of_ble_eq_true rfl)⟩) ⟨fz_blind, fz_pre hPc hKc hDc hAm hS hFc⟩ rfl rfl hl.1 rfl (lv_room (Nat.le_of_ble_eq_true rfl)) dX11_setDensity_7 ⟨(Nat.le_of_ble_eq_true rfl), (Nat.le_of_ble_eq_true rfl)⟩) hS (fun q _ h => hFc q h) hFc (fun r u t H1 locs ht hvm hw hB hz1 hk1 hS => ?_)
  rcases hw with ⟨rfl, hp_1⟩ | ⟨rfl, hp_2⟩
  · have hP := fz_keep hP hk1
    generalize H1 = H at hP hS ⊢
    have hP : va_P (dC, dI) vwCl [(g0, .inr (16, [.ref mj, .ref mq, .ref mm, .ref ms, .ref mf, .ref ml, .int 0, .int 0, .int 1, .int 0, .int (-1), .int 0, .int 0, .int 0, .int 0, .int 0, .long 0])), (mf, .inl (cI, 7, .inl ff))] H := hP
    have hD : va_D A [(g0, .inr (16, [.ref mj, .ref mq, .ref mm, .ref ms, .ref mf, .ref ml, .int 0, .int 0, .int 1, .int 0, .int (-1), .int 0, .int 0, .int 0, .int 0, .int 0, .long 0])), (mf, .inl (cI, 7, .inl ff))] := hD
    refine W.widen (k := 0) (n := 0) (Nat.le_of_ble_eq_true rfl) (Nat.le_of_ble_eq_true rfl) ?_
    refine lv_iconst (v := 1) hx hb dX11_setDensity_10 (by decide) ?_
    have hPc := hP.sub (ws' := [(g0, .inr (16, [.ref mj, .ref mq, .ref mm, .ref ms, .ref mf, .ref ml, .int 0, .int 0, .int 1, .int 0, .int (-1), .int 0, .int 0, .int 0, .int 0, .int 0, .long 0]))]) [0] rfl
    have hDc := hD.sub (ws' := [(g0, .inr (16, [.ref mj, .ref mq, .ref mm, .ref ms, .ref mf, .ref ml, .int 0, .int 0, .int 1, .int 0, .int (-1), .int 0, .int 0, .int 0, .int 0, .int 0, .long 0]))]) [0] (by decide) rfl
    have hKc := hK.sub (tys' := []) [] rfl
    have hFc := va_free (wc := [(g0, .inr (16, [.ref mj, .ref mq, .ref mm, .ref ms, .ref mf, .ref ml, .int 0, .int 0, .int 1, .int 0, .int (-1), .int 0, .int 0, .int 0, .int 0, .int 0, .long 0]))]) hD hS hA [0] rfl
    refine va_calli (va_runV (As := [.int 1, .int 1]) (rest := []) ⟨hx, hb, hml, hown, hts⟩ (c_X11_no1 l dC dI e0 g0 1 mj mq mm ms mf ml 0 H.size) (cwV 2 hts (goodIn_sub (fun _ h9 => List.mem_cons_of_mem _ (List.mem_append_right _ (List.mem_append_right _ (List.mem_append_left _ h9)))) (by decide +kernel)) rfl rfl rfl (by decide +kernel) ⟨(Nat.le_of_ble_eq_true rfl), (Nat.le_of_ble_eq_true rfl)⟩) ⟨fz_blind, va_recv hKc hPc (ci := 16) (q0 := 0) rfl rfl, fz_pre hPc hKc hDc hAm hS hFc⟩ rfl rfl hl.1 rfl (lv_room (Nat.le_of_ble_eq_true rfl)) dX11_setDensity_11 ⟨(Nat.le_of_ble_eq_true rfl), (Nat.le_of_ble_eq_true rfl)⟩) hS (fun q _ h => hFc q h) hFc (fun r u t H1 locs ht hvm hw hB hz1 hk1 hS => ?_)
    obtain rfl := hw
    obtain ⟨hP1, hK1, hD1⟩ := hB
    rw [ht] at hP1
    have hK1 := va_K.moved hvm.symm hK1
    obtain ⟨hP, hD⟩ := va_join (wr := [(mf, .inl (cI, 7, .inl ff))]) (w1 := [(g0, .inr (16, [.ref mj, .ref mq, .ref mm, .ref ms, .ref mf, .ref ml, .int 0, .int 0, .int 1, .int 0, .int (-1), .int 0, .int 0, .int 0, .int 0, .int 0, .long 0]))]) hP hD [0] [1] rfl rfl (by decide) (by decide) hk1 hFc hP1 hD1
    generalize H1 = H at hP hS ⊢
    have hP : va_P (dC, dI) vwCl [(mf, .inl (cI, 7, .inl ff)), (g0, .inr (16, [.ref mj, .ref mq, .ref mm, .ref ms, .ref mf, .ref ml, .int 0, .int 0, .int 1, .int 0, .int (-1), .int 0, .int 0, .int 0, .int 0, .int 0, .long 0]))] H := hP
    have hD : va_D A [(mf, .inl (cI, 7, .inl ff)), (g0, .inr (16, [.ref mj, .ref mq, .ref mm, .ref ms, .ref mf, .ref ml, .int 0, .int 0, .int 1, .int 0, .int (-1), .int 0, .int 0, .int 0, .int 0, .int 0, .long 0]))] := hD
    have hK : va_K (dC, dI) vwCl [(cI, .int)] s := hK
    refine W.widen (k := 0) (n := 0) (Nat.le_of_ble_eq_true rfl) (Nat.le_of_ble_eq_true rfl) ?_
    refine lv_if_ne (tgt := 37) hx hb dX11_setDensity_14 (by decide) (fun c_9 => absurd (by decide) c_9) (fun _ => ?_)
    refine lv_aload_n hx hb dX11_setDensity_17 rfl (lv_at hl 0 rfl) ?_
    refine lv_aload_n hx hb dX11_setDensity_18 rfl (lv_at hl 0 rfl) ?_
    have hPc := hP.sub (ws' := [(g0, .inr (16, [.ref mj, .ref mq, .ref mm, .ref ms, .ref mf, .ref ml, .int 0, .int 0, .int 1, .int 0, .int (-1), .int 0, .int 0, .int 0, .int 0, .int 0, .long 0])), (mf, .inl (cI, 7, .inl ff))]) [1, 0] rfl
    have hDc := hD.sub (ws' := [(g0, .inr (16, [.ref mj, .ref mq, .ref mm, .ref ms, .ref mf, .ref ml, .int 0, .int 0, .int 1, .int 0, .int (-1), .int 0, .int 0, .int 0, .int 0, .int 0, .long 0])), (mf, .inl (cI, 7, .inl ff))]) [1, 0] (by decide) rfl
    have hKc := hK.sub (tys' := [(cI, .int)]) [0] rfl
    have hFc : ∀ q : Nat, H.size ≤ q → A q := fun q h => hA q (Nat.le_trans hS.1 h)
    refine va_calli (va_runV (As := []) (rest := [.ref g0]) ⟨hx, hb, hml, hown, hts⟩ (c_X11_standing l dC dI e0 g0 mj mq mm ms mf ml 0 cI ff H.size hff) (cwV 0 hts (goodIn_sub (fun _ h9 => List.mem_cons_of_mem _ (List.mem_append_right _ (List.mem_append_right _ (List.mem_append_right _ (List.mem_append_left _ h9))))) (by decide +kernel)) rfl rfl rfl (by decide +kernel) ⟨(Nat.le_of_ble_eq_true rfl), (Nat.le_of_ble_eq_true rfl)⟩) ⟨fz_blind, va_recv hKc hPc (ci := 16) (q0 := 0) rfl rfl, fz_pre hPc hKc hDc hAm hS hFc⟩ rfl rfl hl.1 rfl (lv_room (Nat.le_of_ble_eq_true rfl)) dX11_setDensity_19 ⟨(Nat.le_of_ble_eq_true rfl), (Nat.le_of_ble_eq_true rfl)⟩) hS (fun q _ h => hFc q h) hFc (fun r u t H1 locs ht hvm hw hB hz1 hk1 hS => ?_)
    obtain rfl := hw
    have hP := fz_keep hP hk1
    generalize H1 = H at hP hS ⊢
    have hP : va_P (dC, dI) vwCl [(mf, .inl (cI, 7, .inl ff)), (g0, .inr (16, [.ref mj, .ref mq, .ref mm, .ref ms, .ref mf, .ref ml, .int 0, .int 0, .int 1, .int 0, .int (-1), .int 0, .int 0, .int 0, .int 0, .int 0, .long 0]))] H := hP
    have hD : va_D A [(mf, .inl (cI, 7, .inl ff)), (g0, .inr (16, [.ref mj, .ref mq, .ref mm, .ref ms, .ref mf, .ref ml, .int 0, .int 0, .int 1, .int 0, .int (-1), .int 0, .int 0, .int 0, .int 0, .int 0, .long 0]))] := hD
    refine W.widen (k := 0) (n := 0) (Nat.le_of_ble_eq_true rfl) (Nat.le_of_ble_eq_true rfl) ?_
    refine lv_if_ne (tgt := 29) hx hb dX11_setDensity_22 (by decide) (fun c_9 => absurd (by decide) c_9) (fun _ => ?_)
    refine lv_iconst (v := 1) hx hb dX11_setDensity_25 (by decide) ?_
    refine lv_goto (tgt := 30) hx hb dX11_setDensity_26 (by decide) ?_
    refine lv_iconst (v := 2) hx hb dX11_setDensity_30 (by decide) ?_
    have hPc := hP.sub (ws' := [(g0, .inr (16, [.ref mj, .ref mq, .ref mm, .ref ms, .ref mf, .ref ml, .int 0, .int 0, .int 1, .int 0, .int (-1), .int 0, .int 0, .int 0, .int 0, .int 0, .long 0]))]) [1] rfl
    have hDc := hD.sub (ws' := [(g0, .inr (16, [.ref mj, .ref mq, .ref mm, .ref ms, .ref mf, .ref ml, .int 0, .int 0, .int 1, .int 0, .int (-1), .int 0, .int 0, .int 0, .int 0, .int 0, .long 0]))]) [1] (by decide) rfl
    have hKc := hK.sub (tys' := []) [] rfl
    have hFc := va_free (wc := [(g0, .inr (16, [.ref mj, .ref mq, .ref mm, .ref ms, .ref mf, .ref ml, .int 0, .int 0, .int 1, .int 0, .int (-1), .int 0, .int 0, .int 0, .int 0, .int 0, .long 0]))]) hD hS hA [1] rfl
    refine va_calli (va_runV (As := [.int 1, .int 2]) (rest := []) ⟨hx, hb, hml, hown, hts⟩ (c_X11_no1 l dC dI e0 g0 2 mj mq mm ms mf ml 0 H.size) (cwV 2 hts (goodIn_sub (fun _ h9 => List.mem_cons_of_mem _ (List.mem_append_right _ (List.mem_append_right _ (List.mem_append_left _ h9)))) (by decide +kernel)) rfl rfl rfl (by decide +kernel) ⟨(Nat.le_of_ble_eq_true rfl), (Nat.le_of_ble_eq_true rfl)⟩) ⟨fz_blind, va_recv hKc hPc (ci := 16) (q0 := 0) rfl rfl, fz_pre hPc hKc hDc hAm hS hFc⟩ rfl rfl hl.1 rfl (lv_room (Nat.le_of_ble_eq_true rfl)) dX11_setDensity_31 ⟨(Nat.le_of_ble_eq_true rfl), (Nat.le_of_ble_eq_true rfl)⟩) hS (fun q _ h => hFc q h) hFc (fun r u t H1 locs ht hvm hw hB hz1 hk1 hS => ?_)
    obtain rfl := hw
    obtain ⟨hP1, hK1, hD1⟩ := hB
    rw [ht] at hP1
    have hK1 := va_K.moved hvm.symm hK1
    obtain ⟨hP, hD⟩ := va_join (wr := [(mf, .inl (cI, 7, .inl ff))]) (w1 := [(g0, .inr (16, [.ref mj, .ref mq, .ref mm, .ref ms, .ref mf, .ref ml, .int 0, .int 0, .int 1, .int 0, .int (-1), .int 0, .int 0, .int 0, .int 0, .int 0, .long 0]))]) hP hD [1] [0] rfl rfl (by decide) (by decide) hk1 hFc hP1 hD1
    generalize H1 = H at hP hS ⊢
    have hP : va_P (dC, dI) vwCl [(mf, .inl (cI, 7, .inl ff)), (g0, .inr (16, [.ref mj, .ref mq, .ref mm, .ref ms, .ref mf, .ref ml, .int 0, .int 0, .int 1, .int 0, .int (-1), .int 0, .int 0, .int 0, .int 0, .int 0, .long 0]))] H := hP
    have hD : va_D A [(mf, .inl (cI, 7, .inl ff)), (g0, .inr (16, [.ref mj, .ref mq, .ref mm, .ref ms, .ref mf, .ref ml, .int 0, .int 0, .int 1, .int 0, .int (-1), .int 0, .int 0, .int 0, .int 0, .int 0, .long 0]))] := hD
    have hK : va_K (dC, dI) vwCl [(cI, .int)] s := hK
    refine W.widen (k := 0) (n := 0) (Nat.le_of_ble_eq_true rfl) (Nat.le_of_ble_eq_true rfl) ?_
    refine lv_if_eq (tgt := 39) hx hb dX11_setDensity_34 (by decide) (fun _ => ?_) (fun c_9 => absurd (by decide) c_9)
    refine lv_aload_n hx hb dX11_setDensity_39 rfl (lv_at hl 0 rfl) ?_
    refine va_get (D := (dC, dI)) (ci := 16) (v := .int 1) (C := RX11) (T := TX11) (N := 17) hx hb hts (fun _ h9 => List.mem_cons_of_mem _ (List.mem_append_right _ (List.mem_append_right _ (List.mem_append_right _ (List.mem_append_right _ (List.mem_append_left _ h9)))))) hown hK hP 1 rfl rfl 8 (by decide) (hts _ (List.mem_cons_of_mem _ (List.mem_append_left _ (List.mem_of_getElem? (i := 1) rfl)))) (fun _ h9 => h9) rfl dX11_setDensity_40 ?_
    refine lv_istore_n (lv' := [(2, .int 1), (0, .ref g0), (1, .int p0)]) hx hb dX11_setDensity_43 rfl hl (by decide) rfl (fun ls hl => ?_)
    refine lv_aload_n hx hb dX11_setDensity_44 rfl (lv_at hl 1 rfl) ?_
    refine lv_iload_n hx hb dX11_setDensity_45 rfl (lv_at hl 2 rfl) ?_
    refine va_put (D := (dC, dI)) (ci := 16) (v := .int p0) (ty := .int) (C := RX11) (T := TX11) (N := 17) hx hb hts (fun _ h9 => List.mem_cons_of_mem _ (List.mem_append_right _ (List.mem_append_right _ (List.mem_append_right _ (List.mem_append_right _ (List.mem_append_left _ h9)))))) tyX11 tyX11_ok nmX11 hown hK hP hD hS 1 rfl rfl 8 (by decide) (hts _ (List.mem_cons_of_mem _ (List.mem_append_left _ (List.mem_of_getElem? (i := 1) rfl)))) (fun _ h9 => h9) rfl (by decide +kernel) rfl rfl (Nat.le_of_ble_eq_true rfl) dX11_setDensity_46 (fun H locs hP hD hS => ?_)
    have hP : va_P (dC, dI) vwCl [(mf, .inl (cI, 7, .inl ff)), (g0, .inr (16, [.ref mj, .ref mq, .ref mm, .ref ms, .ref mf, .ref ml, .int 0, .int 0, .int p0, .int 0, .int (-1), .int 0, .int 0, .int 0, .int 0, .int 0, .long 0]))] H := hP
    have hD : va_D A [(mf, .inl (cI, 7, .inl ff)), (g0, .inr (16, [.ref mj, .ref mq, .ref mm, .ref ms, .ref mf, .ref ml, .int 0, .int 0, .int p0, .int 0, .int (-1), .int 0, .int 0, .int 0, .int 0, .int 0, .long 0]))] := hD
    refine lv_iload_n hx hb dX11_setDensity_49 rfl (lv_at hl 0 rfl) ?_
    have hP9 := hP.sub (ws' := [(g0, .inr (16, [.ref mj, .ref mq, .ref mm, .ref ms, .ref mf, .ref ml, .int 0, .int 0, .int p0, .int 0, .int (-1), .int 0, .int 0, .int 0, .int 0, .int 0, .long 0]))]) [1] rfl
    have hD9 := hD.sub (ws' := [(g0, .inr (16, [.ref mj, .ref mq, .ref mm, .ref ms, .ref mf, .ref ml, .int 0, .int 0, .int p0, .int 0, .int (-1), .int 0, .int 0, .int 0, .int 0, .int 0, .long 0]))]) [1] (by decide) rfl
    have hK9 := hK.sub (tys' := []) [] rfl
    refine W.widen (k := 0) (n := 0) (Nat.le_of_ble_eq_true rfl) (Nat.le_of_ble_eq_true rfl) ?_
    exact W.iret (v := 1) hx hb hr (fun t ht hW => ⟨⟨1, 0, rfl, Or.inl (⟨rfl, rfl, hp_1⟩), ⟨p0, by rw [ht]; exact hP9, va_K.moved hW.alike hK9, hD9⟩⟩, hS.F ht⟩) hS.2.2 dX11_setDensity_50
  · have hP := fz_keep hP hk1
    generalize H1 = H at hP hS ⊢
    have hP : va_P (dC, dI) vwCl [(g0, .inr (16, [.ref mj, .ref mq, .ref mm, .ref ms, .ref mf, .ref ml, .int 0, .int 0, .int 1, .int 0, .int (-1), .int 0, .int 0, .int 0, .int 0, .int 0, .long 0])), (mf, .inl (cI, 7, .inl ff))] H := hP
    have hD : va_D A [(g0, .inr (16, [.ref mj, .ref mq, .ref mm, .ref ms, .ref mf, .ref ml, .int 0, .int 0, .int 1, .int 0, .int (-1), .int 0, .int 0, .int 0, .int 0, .int 0, .long 0])), (mf, .inl (cI, 7, .inl ff))] := hD
    refine W.widen (k := 0) (n := 0) (Nat.le_of_ble_eq_true rfl) (Nat.le_of_ble_eq_true rfl) ?_
    refine lv_iconst (v := 1) hx hb dX11_setDensity_10 (by decide) ?_
    have hPc := hP.sub (ws' := [(g0, .inr (16, [.ref mj, .ref mq, .ref mm, .ref ms, .ref mf, .ref ml, .int 0, .int 0, .int 1, .int 0, .int (-1), .int 0, .int 0, .int 0, .int 0, .int 0, .long 0]))]) [0] rfl
    have hDc := hD.sub (ws' := [(g0, .inr (16, [.ref mj, .ref mq, .ref mm, .ref ms, .ref mf, .ref ml, .int 0, .int 0, .int 1, .int 0, .int (-1), .int 0, .int 0, .int 0, .int 0, .int 0, .long 0]))]) [0] (by decide) rfl
    have hKc := hK.sub (tys' := []) [] rfl
    have hFc := va_free (wc := [(g0, .inr (16, [.ref mj, .ref mq, .ref mm, .ref ms, .ref mf, .ref ml, .int 0, .int 0, .int 1, .int 0, .int (-1), .int 0, .int 0, .int 0, .int 0, .int 0, .long 0]))]) hD hS hA [0] rfl
    refine va_calli (va_runV (As := [.int 0, .int 1]) (rest := []) ⟨hx, hb, hml, hown, hts⟩ (c_X11_no0 l dC dI e0 g0 1 mj mq mm ms mf ml 0 H.size) (cwV 2 hts (goodIn_sub (fun _ h9 => List.mem_cons_of_mem _ (List.mem_append_right _ (List.mem_append_right _ (List.mem_append_right _ (List.mem_append_right _ (List.mem_append_right _ h9)))))) (by decide +kernel)) rfl rfl rfl (by decide +kernel) ⟨(Nat.le_of_ble_eq_true rfl), (Nat.le_of_ble_eq_true rfl)⟩) ⟨fz_blind, va_recv hKc hPc (ci := 16) (q0 := 0) rfl rfl, fz_pre hPc hKc hDc hAm hS hFc⟩ rfl rfl hl.1 rfl (lv_room (Nat.le_of_ble_eq_true rfl)) dX11_setDensity_11 ⟨(Nat.le_of_ble_eq_true rfl), (Nat.le_of_ble_eq_true rfl)⟩) hS (fun q _ h => hFc q h) hFc (fun r u t H1 locs ht hvm hw hB hz1 hk1 hS => ?_)
    obtain rfl := hw
    obtain ⟨hP1, hK1, hD1⟩ := hB
    rw [ht] at hP1
    have hK1 := va_K.moved hvm.symm hK1
    obtain ⟨hP, hD⟩ := va_join (wr := [(mf, .inl (cI, 7, .inl ff))]) (w1 := [(g0, .inr (16, [.ref mj, .ref mq, .ref mm, .ref ms, .ref mf, .ref ml, .int 1, .int 0, .int 1, .int 0, .int (-1), .int 0, .int 0, .int 0, .int 0, .int 0, .long 0]))]) hP hD [0] [1] rfl rfl (by decide) (by decide) hk1 hFc hP1 hD1
    generalize H1 = H at hP hS ⊢
    have hP : va_P (dC, dI) vwCl [(mf, .inl (cI, 7, .inl ff)), (g0, .inr (16, [.ref mj, .ref mq, .ref mm, .ref ms, .ref mf, .ref ml, .int 1, .int 0, .int 1, .int 0, .int (-1), .int 0, .int 0, .int 0, .int 0, .int 0, .long 0]))] H := hP
    have hD : va_D A [(mf, .inl (cI, 7, .inl ff)), (g0, .inr (16, [.ref mj, .ref mq, .ref mm, .ref ms, .ref mf, .ref ml, .int 1, .int 0, .int 1, .int 0, .int (-1), .int 0, .int 0, .int 0, .int 0, .int 0, .long 0]))] := hD
    have hK : va_K (dC, dI) vwCl [(cI, .int)] s := hK
    refine W.widen (k := 0) (n := 0) (Nat.le_of_ble_eq_true rfl) (Nat.le_of_ble_eq_true rfl) ?_
    refine lv_if_ne (tgt := 37) hx hb dX11_setDensity_14 (by decide) (fun _ => ?_) (fun c_9 => absurd c_9 (by decide))
    refine lv_iconst (v := 0) hx hb dX11_setDensity_37 (by decide) ?_
    have hP9 := hP.sub (ws' := [(g0, .inr (16, [.ref mj, .ref mq, .ref mm, .ref ms, .ref mf, .ref ml, .int 1, .int 0, .int 1, .int 0, .int (-1), .int 0, .int 0, .int 0, .int 0, .int 0, .long 0]))]) [1] rfl
    have hD9 := hD.sub (ws' := [(g0, .inr (16, [.ref mj, .ref mq, .ref mm, .ref ms, .ref mf, .ref ml, .int 1, .int 0, .int 1, .int 0, .int (-1), .int 0, .int 0, .int 0, .int 0, .int 0, .long 0]))]) [1] (by decide) rfl
    have hK9 := hK.sub (tys' := []) [] rfl
    refine W.widen (k := 0) (n := 0) (Nat.le_of_ble_eq_true rfl) (Nat.le_of_ble_eq_true rfl) ?_
    exact W.iret (v := 0) hx hb hr (fun t ht hW => ⟨⟨0, 1, rfl, Or.inr (⟨rfl, rfl, hp_2⟩), ⟨1, by rw [ht]; exact hP9, va_K.moved hW.alike hK9, hD9⟩⟩, hS.F ht⟩) hS.2.2 dX11_setDensity_38
def v_c_X11_places : List Cond := .code yX11_places cX11_places 1 (some .int) :: ([] ++ (wsV RX11 54 RX11 yX11_many v_c_X11_many))
set_option maxRecDepth 20000 in
theorem i_c_X11_places : ∀ w ∈ v_c_X11_places, w ∈ lw_tbl := List.forall_mem_cons.mpr ⟨List.mem_of_getElem? (i := 1523) (by decide +kernel), List.forall_mem_append.mpr ⟨fun _ h => absurd h List.not_mem_nil, (by unfold wsV; exact List.forall_mem_append.mpr ⟨List.forall_mem_cons.mpr ⟨List.mem_of_getElem? (i := 1524) (by decide +kernel), List.forall_mem_cons.mpr ⟨List.mem_of_getElem? (i := 1526) (by decide +kernel), List.forall_mem_cons.mpr ⟨List.mem_of_getElem? (i := 30) (by decide +kernel), List.forall_mem_cons.mpr ⟨List.mem_of_getElem? (i := 54) (by decide +kernel), fun _ h => absurd h List.not_mem_nil⟩⟩⟩⟩, i_c_X11_many⟩)⟩⟩
set_option maxHeartbeats 4000000 in
set_option maxRecDepth 100000 in
theorem c_X11_places (l : Launch) (dC : Nat → ClassId) (dI : Nat → Nat → Nat) (e0 : Nat) (g0 mj mq mm ms mf ml : Nat) (sz : Nat) : Met l yX11_places v_c_X11_places ({ frames := 2, cells := 0, slots := 0, locals := 50 }) (fz_P (dC, dI) e0 [(g0, .inr (16, [.ref mj, .ref mq, .ref mm, .ref ms, .ref mf, .ref ml, .int 0, .int 0, .int 1, .int 0, .int (-1), .int 0, .int 0, .int 0, .int 0, .int 0, .long 0])), (mj, .inr (4, [.int 0, .ref e0, .int 0]))] [] sz (fun q : Nat => sz ≤ q) [.ref g0]) (va_Qi (fun (r : Int32) (u : Unit) => r = 0) (fun (u : Unit) (t : State) => True) (fun q : Nat => sz ≤ q)) 0 0 (fun q : Nat => sz ≤ q) := by
  refine Met.ofW (cc := cX11_places) (maxL := 1) (ret := (some .int)) (by decide) rfl ?_
  intro p e s m args below meth c s₁ B hml hv
  obtain ⟨rfl, hsz, hP, hK, hD0, hAm⟩ := hv
  have hx := B.exec
  have hb := B.bytes
  have hr := B.returns
  have hts := atoms_spec (ws := v_c_X11_places) B.pre
  have hown : s.vm.findClass RX11 = some m.cls := findClass_of_methodNamed B.named
  have hlocks := B.notSynchronized
  subst hsz
  have hD := hD0
  generalize hAe : (fun q : Nat => s.heap.size ≤ q) = A at hAm ⊢
  have hA : ∀ q : Nat, s.heap.size ≤ q → A q := fun q h => by rw [← hAe]; exact h
  have hS : va_S A s.heap s.heap [] := va_S.rf
  have hP : va_P (dC, dI) vwCl [(g0, .inr (16, [.ref mj, .ref mq, .ref mm, .ref ms, .ref mf, .ref ml, .int 0, .int 0, .int 1, .int 0, .int (-1), .int 0, .int 0, .int 0, .int 0, .int 0, .long 0])), (mj, .inr (4, [.int 0, .ref e0, .int 0]))] s.heap := hP
  have hl := lv_entry ([.ref g0]) (n := 1) (Nat.le_of_ble_eq_true rfl)
  rw [lg_entry_eq]
  generalize (lg_sl ([.ref g0]) ++ List.replicate (1 - (lg_sl ([.ref g0])).length) Slot.unset).toArray = ls at hl ⊢
  have hl : lv_has ls 1 [(0, .ref g0)] := hl
  refine lv_aload_n hx hb dX11_places_0 rfl (lv_at hl 0 rfl) ?_
  have hPc := hP.sub (ws' := [(g0, .inr (16, [.ref mj, .ref mq, .ref mm, .ref ms, .ref mf, .ref ml, .int 0, .int 0, .int 1, .int 0, .int (-1), .int 0, .int 0, .int 0, .int 0, .int 0, .long 0])), (mj, .inr (4, [.int 0, .ref e0, .int 0]))]) [0, 1] rfl
  have hDc := hD.sub (ws' := [(g0, .inr (16, [.ref mj, .ref mq, .ref mm, .ref ms, .ref mf, .ref ml, .int 0, .int 0, .int 1, .int 0, .int (-1), .int 0, .int 0, .int 0, .int 0, .int 0, .long 0])), (mj, .inr (4, [.int 0, .ref e0, .int 0]))]) [0, 1] (by decide) rfl
  have hKc := hK.sub (tys' := []) [] rfl
  have hFc : ∀ q : Nat, s.heap.size ≤ q → A q := fun q h => hA q (Nat.le_trans hS.1 h)
  refine va_calli (va_runV (As := []) (rest := []) ⟨hx, hb, hml, hown, hts⟩ (c_X11_many l dC dI e0 g0 mj mq mm ms mf ml 0 (-1) s.heap.size) (cwV 0 hts (goodIn_sub (fun _ h9 => List.mem_cons_of_mem _ (List.mem_append_right _ (h9))) (by decide +kernel)) rfl rfl rfl (by decide +kernel) ⟨(Nat.le_of_ble_eq_true rfl), (Nat.le_of_ble_eq_true rfl)⟩) ⟨fz_blind, va_recv hKc hPc (ci := 16) (q0 := 0) rfl rfl, fz_pre hPc hKc hDc hAm hS hFc⟩ rfl rfl hl.1 rfl (lv_room (Nat.le_of_ble_eq_true rfl)) dX11_places_1 ⟨(Nat.le_of_ble_eq_true rfl), (Nat.le_of_ble_eq_true rfl)⟩) hS (fun q _ h => hFc q h) hFc (fun r u t H1 locs ht hvm hw hB hz1 hk1 hS => ?_)
  obtain rfl := hw
  have hP := fz_keep hP hk1
  generalize H1 = H at hP hS ⊢
  have hP : va_P (dC, dI) vwCl [(g0, .inr (16, [.ref mj, .ref mq, .ref mm, .ref ms, .ref mf, .ref ml, .int 0, .int 0, .int 1, .int 0, .int (-1), .int 0, .int 0, .int 0, .int 0, .int 0, .long 0])), (mj, .inr (4, [.int 0, .ref e0, .int 0]))] H := hP
  refine W.widen (k := 0) (n := 0) (Nat.le_of_ble_eq_true rfl) (Nat.le_of_ble_eq_true rfl) ?_
  refine W.widen (k := 0) (n := 0) (Nat.le_of_ble_eq_true rfl) (Nat.le_of_ble_eq_true rfl) ?_
  exact W.iret (v := 0) hx hb hr (fun t ht hW => ⟨⟨0, (), rfl, rfl, trivial⟩, hS.F ht⟩) hS.2.2 dX11_places_4
def v_c_X11_area : List Cond := .code yX11_area cX11_area 2 (some .int) :: ([] ++ (wsV RX11 116 RX11 yX11_noPlace v_c_X11_noPlace))
set_option maxRecDepth 20000 in
theorem i_c_X11_area : ∀ w ∈ v_c_X11_area, w ∈ lw_tbl := List.forall_mem_cons.mpr ⟨List.mem_of_getElem? (i := 1532) (by decide +kernel), List.forall_mem_append.mpr ⟨fun _ h => absurd h List.not_mem_nil, (by unfold wsV; exact List.forall_mem_append.mpr ⟨List.forall_mem_cons.mpr ⟨List.mem_of_getElem? (i := 1533) (by decide +kernel), List.forall_mem_cons.mpr ⟨List.mem_of_getElem? (i := 1535) (by decide +kernel), List.forall_mem_cons.mpr ⟨List.mem_of_getElem? (i := 31) (by decide +kernel), List.forall_mem_cons.mpr ⟨List.mem_of_getElem? (i := 54) (by decide +kernel), fun _ h => absurd h List.not_mem_nil⟩⟩⟩⟩, i_c_X11_noPlace⟩)⟩⟩
set_option maxHeartbeats 4000000 in
set_option maxRecDepth 100000 in
theorem c_X11_area (l : Launch) (dC : Nat → ClassId) (dI : Nat → Nat → Nat) (e0 : Nat) (g0 : Nat) (p0 : Int32) (mj mq mm ms mf ml : Nat) (sz : Nat) : Met l yX11_area v_c_X11_area ({ frames := 4, cells := 0, slots := 0, locals := 92 }) (fz_P (dC, dI) e0 [(g0, .inr (16, [.ref mj, .ref mq, .ref mm, .ref ms, .ref mf, .ref ml, .int 0, .int 0, .int 1, .int 0, .int (-1), .int 0, .int 0, .int 0, .int 0, .int 0, .long 0])), (mj, .inr (4, [.int 0, .ref e0, .int 0]))] [] sz (va_A [(g0, .inr (16, [.ref mj, .ref mq, .ref mm, .ref ms, .ref mf, .ref ml, .int 0, .int 0, .int 1, .int 0, .int (-1), .int 0, .int 0, .int 0, .int 0, .int 0, .long 0])), (mj, .inr (4, [.int 0, .ref e0, .int 0]))] sz) [.ref g0, .int p0]) (va_Qi (fun (r : Int32) (u : Unit) => r = 0) (fun (u : Unit) (t : State) => va_P (dC, dI) vwCl [(g0, .inr (16, [.ref mj, .ref mq, .ref mm, .ref ms, .ref mf, .ref ml, .int 1, .int 0, .int 1, .int 0, .int (-1), .int 0, .int 0, .int 0, .int 0, .int 0, .long 0]))] t.heap ∧ va_K (dC, dI) vwCl [] t ∧ va_D (va_A [(g0, .inr (16, [.ref mj, .ref mq, .ref mm, .ref ms, .ref mf, .ref ml, .int 0, .int 0, .int 1, .int 0, .int (-1), .int 0, .int 0, .int 0, .int 0, .int 0, .long 0])), (mj, .inr (4, [.int 0, .ref e0, .int 0]))] sz) [(g0, .inr (16, [.ref mj, .ref mq, .ref mm, .ref ms, .ref mf, .ref ml, .int 1, .int 0, .int 1, .int 0, .int (-1), .int 0, .int 0, .int 0, .int 0, .int 0, .long 0]))]) (va_A [(g0, .inr (16, [.ref mj, .ref mq, .ref mm, .ref ms, .ref mf, .ref ml, .int 0, .int 0, .int 1, .int 0, .int (-1), .int 0, .int 0, .int 0, .int 0, .int 0, .long 0])), (mj, .inr (4, [.int 0, .ref e0, .int 0]))] sz)) 0 0 (va_A [(g0, .inr (16, [.ref mj, .ref mq, .ref mm, .ref ms, .ref mf, .ref ml, .int 0, .int 0, .int 1, .int 0, .int (-1), .int 0, .int 0, .int 0, .int 0, .int 0, .long 0])), (mj, .inr (4, [.int 0, .ref e0, .int 0]))] sz) := by
  refine Met.ofW (cc := cX11_area) (maxL := 2) (ret := (some .int)) (by decide) rfl ?_
  intro p e s m args below meth c s₁ B hml hv
  obtain ⟨rfl, hsz, hP, hK, hD0, hAm⟩ := hv
  have hx := B.exec
  have hb := B.bytes
  have hr := B.returns
  have hts := atoms_spec (ws := v_c_X11_area) B.pre
  have hown : s.vm.findClass RX11 = some m.cls := findClass_of_methodNamed B.named
  have hlocks := B.notSynchronized
  subst hsz
  have hD := hD0.self (sz := s.heap.size)
  generalize hAe : va_A [(g0, .inr (16, [.ref mj, .ref mq, .ref mm, .ref ms, .ref mf, .ref ml, .int 0, .int 0, .int 1, .int 0, .int (-1), .int 0, .int 0, .int 0, .int 0, .int 0, .long 0])), (mj, .inr (4, [.int 0, .ref e0, .int 0]))] s.heap.size = A at hD hAm ⊢
  have hA : ∀ q : Nat, s.heap.size ≤ q → A q := fun q h => by rw [← hAe]; exact Or.inr h
  have hS : va_S A s.heap s.heap [] := va_S.rf
  have hP : va_P (dC, dI) vwCl [(g0, .inr (16, [.ref mj, .ref mq, .ref mm, .ref ms, .ref mf, .ref ml, .int 0, .int 0, .int 1, .int 0, .int (-1), .int 0, .int 0, .int 0, .int 0, .int 0, .long 0])), (mj, .inr (4, [.int 0, .ref e0, .int 0]))] s.heap := hP
  have hl := lv_entry ([.ref g0, .int p0]) (n := 2) (Nat.le_of_ble_eq_true rfl)
  rw [lg_entry_eq]
  generalize (lg_sl ([.ref g0, .int p0]) ++ List.replicate (2 - (lg_sl ([.ref g0, .int p0])).length) Slot.unset).toArray = ls at hl ⊢
  have hl : lv_has ls 2 [(0, .ref g0), (1, .int p0)] := hl
  refine lv_aload_n hx hb dX11_area_0 rfl (lv_at hl 0 rfl) ?_
  refine lv_iload_n hx hb dX11_area_1 rfl (lv_at hl 1 rfl) ?_
  have hPc := hP.sub (ws' := [(g0, .inr (16, [.ref mj, .ref mq, .ref mm, .ref ms, .ref mf, .ref ml, .int 0, .int 0, .int 1, .int 0, .int (-1), .int 0, .int 0, .int 0, .int 0, .int 0, .long 0])), (mj, .inr (4, [.int 0, .ref e0, .int 0]))]) [0, 1] rfl
  have hDc := hD.sub (ws' := [(g0, .inr (16, [.ref mj, .ref mq, .ref mm, .ref ms, .ref mf, .ref ml, .int 0, .int 0, .int 1, .int 0, .int (-1), .int 0, .int 0, .int 0, .int 0, .int 0, .long 0])), (mj, .inr (4, [.int 0, .ref e0, .int 0]))]) [0, 1] (by decide) rfl
  have hKc := hK.sub (tys' := []) [] rfl
  have hFc := va_free (wc := [(g0, .inr (16, [.ref mj, .ref mq, .ref mm, .ref ms, .ref mf, .ref ml, .int 0, .int 0, .int 1, .int 0, .int (-1), .int 0, .int 0, .int 0, .int 0, .int 0, .long 0])), (mj, .inr (4, [.int 0, .ref e0, .int 0]))]) hD hS hA [0, 1] rfl
  refine va_calli (va_runV (As := [.int p0]) (rest := []) ⟨hx, hb, hml, hown, hts⟩ (c_X11_noPlace l dC dI e0 g0 p0 mj mq mm ms mf ml 0 s.heap.size) (cwV 1 hts (goodIn_sub (fun _ h9 => List.mem_cons_of_mem _ (List.mem_append_right _ (h9))) (by decide +kernel)) rfl rfl rfl (by decide +kernel) ⟨(Nat.le_of_ble_eq_true rfl), (Nat.le_of_ble_eq_true rfl)⟩) ⟨fz_blind, va_recv hKc hPc (ci := 16) (q0 := 0) rfl rfl, fz_pre hPc hKc hDc hAm hS hFc⟩ rfl rfl hl.1 rfl (lv_room (Nat.le_of_ble_eq_true rfl)) dX11_area_2 ⟨(Nat.le_of_ble_eq_true rfl), (Nat.le_of_ble_eq_true rfl)⟩) hS (fun q _ h => hFc q h) hFc (fun r u t H1 locs ht hvm hw hB hz1 hk1 hS => ?_)
  obtain rfl := hw
  obtain ⟨hP1, hK1, hD1⟩ := hB
  rw [ht] at hP1
  have hK1 := va_K.moved hvm.symm hK1
  obtain ⟨hP, hD⟩ := va_join (wr := []) (w1 := [(g0, .inr (16, [.ref mj, .ref mq, .ref mm, .ref ms, .ref mf, .ref ml, .int 1, .int 0, .int 1, .int 0, .int (-1), .int 0, .int 0, .int 0, .int 0, .int 0, .long 0]))]) hP hD [0, 1] [] rfl rfl (by decide) (by decide) hk1 hFc hP1 hD1
  generalize H1 = H at hP hS ⊢
  have hP : va_P (dC, dI) vwCl [(g0, .inr (16, [.ref mj, .ref mq, .ref mm, .ref ms, .ref mf, .ref ml, .int 1, .int 0, .int 1, .int 0, .int (-1), .int 0, .int 0, .int 0, .int 0, .int 0, .long 0]))] H := hP
  have hD : va_D A [(g0, .inr (16, [.ref mj, .ref mq, .ref mm, .ref ms, .ref mf, .ref ml, .int 1, .int 0, .int 1, .int 0, .int (-1), .int 0, .int 0, .int 0, .int 0, .int 0, .long 0]))] := hD
  have hK : va_K (dC, dI) vwCl [] s := hK
  refine W.widen (k := 0) (n := 0) (Nat.le_of_ble_eq_true rfl) (Nat.le_of_ble_eq_true rfl) ?_
  refine lv_if_eq (tgt := 12) hx hb dX11_area_5 (by decide) (fun c_9 => absurd c_9 (by decide)) (fun _ => ?_)
  refine lv_iconst (v := 0) hx hb dX11_area_8 (by decide) ?_
  refine lv_goto (tgt := 17) hx hb dX11_area_9 (by decide) ?_
  have hP9 := hP.sub (ws' := [(g0, .inr (16, [.ref mj, .ref mq, .ref mm, .ref ms, .ref mf, .ref ml, .int 1, .int 0, .int 1, .int 0, .int (-1), .int 0, .int 0, .int 0, .int 0, .int 0, .long 0]))]) [0] rfl
  have hD9 := hD.sub (ws' := [(g0, .inr (16, [.ref mj, .ref mq, .ref mm, .ref ms, .ref mf, .ref ml, .int 1, .int 0, .int 1, .int 0, .int (-1), .int 0, .int 0, .int 0, .int 0, .int 0, .long 0]))]) [0] (by decide) rfl
  have hK9 := hK.sub (tys' := []) [] rfl
  refine W.widen (k := 0) (n := 0) (Nat.le_of_ble_eq_true rfl) (Nat.le_of_ble_eq_true rfl) ?_
  exact W.iret (v := 0) hx hb hr (fun t ht hW => ⟨⟨0, (), rfl, rfl, ⟨by rw [ht]; exact hP9, va_K.moved hW.alike hK9, hD9⟩⟩, hS.F ht⟩) hS.2.2 dX11_area_17
def v_c_X11_weight : List Cond := .code yX11_weight cX11_weight 2 (some .int) :: ([] ++ (wsV RX11 116 RX11 yX11_noPlace v_c_X11_noPlace))
set_option maxRecDepth 20000 in
theorem i_c_X11_weight : ∀ w ∈ v_c_X11_weight, w ∈ lw_tbl := List.forall_mem_cons.mpr ⟨List.mem_of_getElem? (i := 1552) (by decide +kernel), List.forall_mem_append.mpr ⟨fun _ h => absurd h List.not_mem_nil, (by unfold wsV; exact List.forall_mem_append.mpr ⟨List.forall_mem_cons.mpr ⟨List.mem_of_getElem? (i := 1533) (by decide +kernel), List.forall_mem_cons.mpr ⟨List.mem_of_getElem? (i := 1535) (by decide +kernel), List.forall_mem_cons.mpr ⟨List.mem_of_getElem? (i := 31) (by decide +kernel), List.forall_mem_cons.mpr ⟨List.mem_of_getElem? (i := 54) (by decide +kernel), fun _ h => absurd h List.not_mem_nil⟩⟩⟩⟩, i_c_X11_noPlace⟩)⟩⟩
set_option maxHeartbeats 4000000 in
set_option maxRecDepth 100000 in
theorem c_X11_weight (l : Launch) (dC : Nat → ClassId) (dI : Nat → Nat → Nat) (e0 : Nat) (g0 : Nat) (p0 : Int32) (mj mq mm ms mf ml : Nat) (sz : Nat) : Met l yX11_weight v_c_X11_weight ({ frames := 4, cells := 0, slots := 0, locals := 92 }) (fz_P (dC, dI) e0 [(g0, .inr (16, [.ref mj, .ref mq, .ref mm, .ref ms, .ref mf, .ref ml, .int 0, .int 0, .int 1, .int 0, .int (-1), .int 0, .int 0, .int 0, .int 0, .int 0, .long 0])), (mj, .inr (4, [.int 0, .ref e0, .int 0]))] [] sz (va_A [(g0, .inr (16, [.ref mj, .ref mq, .ref mm, .ref ms, .ref mf, .ref ml, .int 0, .int 0, .int 1, .int 0, .int (-1), .int 0, .int 0, .int 0, .int 0, .int 0, .long 0])), (mj, .inr (4, [.int 0, .ref e0, .int 0]))] sz) [.ref g0, .int p0]) (va_Qi (fun (r : Int32) (u : Unit) => r = 0) (fun (u : Unit) (t : State) => va_P (dC, dI) vwCl [(g0, .inr (16, [.ref mj, .ref mq, .ref mm, .ref ms, .ref mf, .ref ml, .int 1, .int 0, .int 1, .int 0, .int (-1), .int 0, .int 0, .int 0, .int 0, .int 0, .long 0]))] t.heap ∧ va_K (dC, dI) vwCl [] t ∧ va_D (va_A [(g0, .inr (16, [.ref mj, .ref mq, .ref mm, .ref ms, .ref mf, .ref ml, .int 0, .int 0, .int 1, .int 0, .int (-1), .int 0, .int 0, .int 0, .int 0, .int 0, .long 0])), (mj, .inr (4, [.int 0, .ref e0, .int 0]))] sz) [(g0, .inr (16, [.ref mj, .ref mq, .ref mm, .ref ms, .ref mf, .ref ml, .int 1, .int 0, .int 1, .int 0, .int (-1), .int 0, .int 0, .int 0, .int 0, .int 0, .long 0]))]) (va_A [(g0, .inr (16, [.ref mj, .ref mq, .ref mm, .ref ms, .ref mf, .ref ml, .int 0, .int 0, .int 1, .int 0, .int (-1), .int 0, .int 0, .int 0, .int 0, .int 0, .long 0])), (mj, .inr (4, [.int 0, .ref e0, .int 0]))] sz)) 0 0 (va_A [(g0, .inr (16, [.ref mj, .ref mq, .ref mm, .ref ms, .ref mf, .ref ml, .int 0, .int 0, .int 1, .int 0, .int (-1), .int 0, .int 0, .int 0, .int 0, .int 0, .long 0])), (mj, .inr (4, [.int 0, .ref e0, .int 0]))] sz) := by
  refine Met.ofW (cc := cX11_weight) (maxL := 2) (ret := (some .int)) (by decide) rfl ?_
  intro p e s m args below meth c s₁ B hml hv
  obtain ⟨rfl, hsz, hP, hK, hD0, hAm⟩ := hv
  have hx := B.exec
  have hb := B.bytes
  have hr := B.returns
  have hts := atoms_spec (ws := v_c_X11_weight) B.pre
  have hown : s.vm.findClass RX11 = some m.cls := findClass_of_methodNamed B.named
  have hlocks := B.notSynchronized
  subst hsz
  have hD := hD0.self (sz := s.heap.size)
  generalize hAe : va_A [(g0, .inr (16, [.ref mj, .ref mq, .ref mm, .ref ms, .ref mf, .ref ml, .int 0, .int 0, .int 1, .int 0, .int (-1), .int 0, .int 0, .int 0, .int 0, .int 0, .long 0])), (mj, .inr (4, [.int 0, .ref e0, .int 0]))] s.heap.size = A at hD hAm ⊢
  have hA : ∀ q : Nat, s.heap.size ≤ q → A q := fun q h => by rw [← hAe]; exact Or.inr h
  have hS : va_S A s.heap s.heap [] := va_S.rf
  have hP : va_P (dC, dI) vwCl [(g0, .inr (16, [.ref mj, .ref mq, .ref mm, .ref ms, .ref mf, .ref ml, .int 0, .int 0, .int 1, .int 0, .int (-1), .int 0, .int 0, .int 0, .int 0, .int 0, .long 0])), (mj, .inr (4, [.int 0, .ref e0, .int 0]))] s.heap := hP
  have hl := lv_entry ([.ref g0, .int p0]) (n := 2) (Nat.le_of_ble_eq_true rfl)
  rw [lg_entry_eq]
  generalize (lg_sl ([.ref g0, .int p0]) ++ List.replicate (2 - (lg_sl ([.ref g0, .int p0])).length) Slot.unset).toArray = ls at hl ⊢
  have hl : lv_has ls 2 [(0, .ref g0), (1, .int p0)] := hl
  refine lv_aload_n hx hb dX11_weight_0 rfl (lv_at hl 0 rfl) ?_
  refine lv_iload_n hx hb dX11_weight_1 rfl (lv_at hl 1 rfl) ?_
  have hPc := hP.sub (ws' := [(g0, .inr (16, [.ref mj, .ref mq, .ref mm, .ref ms, .ref mf, .ref ml, .int 0, .int 0, .int 1, .int 0, .int (-1), .int 0, .int 0, .int 0, .int 0, .int 0, .long 0])), (mj, .inr (4, [.int 0, .ref e0, .int 0]))]) [0, 1] rfl
  have hDc := hD.sub (ws' := [(g0, .inr (16, [.ref mj, .ref mq, .ref mm, .ref ms, .ref mf, .ref ml, .int 0, .int 0, .int 1, .int 0, .int (-1), .int 0, .int 0, .int 0, .int 0, .int 0, .long 0])), (mj, .inr (4, [.int 0, .ref e0, .int 0]))]) [0, 1] (by decide) rfl
  have hKc := hK.sub (tys' := []) [] rfl
  have hFc := va_free (wc := [(g0, .inr (16, [.ref mj, .ref mq, .ref mm, .ref ms, .ref mf, .ref ml, .int 0, .int 0, .int 1, .int 0, .int (-1), .int 0, .int 0, .int 0, .int 0, .int 0, .long 0])), (mj, .inr (4, [.int 0, .ref e0, .int 0]))]) hD hS hA [0, 1] rfl
  refine va_calli (va_runV (As := [.int p0]) (rest := []) ⟨hx, hb, hml, hown, hts⟩ (c_X11_noPlace l dC dI e0 g0 p0 mj mq mm ms mf ml 0 s.heap.size) (cwV 1 hts (goodIn_sub (fun _ h9 => List.mem_cons_of_mem _ (List.mem_append_right _ (h9))) (by decide +kernel)) rfl rfl rfl (by decide +kernel) ⟨(Nat.le_of_ble_eq_true rfl), (Nat.le_of_ble_eq_true rfl)⟩) ⟨fz_blind, va_recv hKc hPc (ci := 16) (q0 := 0) rfl rfl, fz_pre hPc hKc hDc hAm hS hFc⟩ rfl rfl hl.1 rfl (lv_room (Nat.le_of_ble_eq_true rfl)) dX11_weight_2 ⟨(Nat.le_of_ble_eq_true rfl), (Nat.le_of_ble_eq_true rfl)⟩) hS (fun q _ h => hFc q h) hFc (fun r u t H1 locs ht hvm hw hB hz1 hk1 hS => ?_)
  obtain rfl := hw
  obtain ⟨hP1, hK1, hD1⟩ := hB
  rw [ht] at hP1
  have hK1 := va_K.moved hvm.symm hK1
  obtain ⟨hP, hD⟩ := va_join (wr := []) (w1 := [(g0, .inr (16, [.ref mj, .ref mq, .ref mm, .ref ms, .ref mf, .ref ml, .int 1, .int 0, .int 1, .int 0, .int (-1), .int 0, .int 0, .int 0, .int 0, .int 0, .long 0]))]) hP hD [0, 1] [] rfl rfl (by decide) (by decide) hk1 hFc hP1 hD1
  generalize H1 = H at hP hS ⊢
  have hP : va_P (dC, dI) vwCl [(g0, .inr (16, [.ref mj, .ref mq, .ref mm, .ref ms, .ref mf, .ref ml, .int 1, .int 0, .int 1, .int 0, .int (-1), .int 0, .int 0, .int 0, .int 0, .int 0, .long 0]))] H := hP
  have hD : va_D A [(g0, .inr (16, [.ref mj, .ref mq, .ref mm, .ref ms, .ref mf, .ref ml, .int 1, .int 0, .int 1, .int 0, .int (-1), .int 0, .int 0, .int 0, .int 0, .int 0, .long 0]))] := hD
  have hK : va_K (dC, dI) vwCl [] s := hK
  refine W.widen (k := 0) (n := 0) (Nat.le_of_ble_eq_true rfl) (Nat.le_of_ble_eq_true rfl) ?_
  refine lv_if_eq (tgt := 12) hx hb dX11_weight_5 (by decide) (fun c_9 => absurd c_9 (by decide)) (fun _ => ?_)
  refine lv_iconst (v := 0) hx hb dX11_weight_8 (by decide) ?_
  refine lv_goto (tgt := 17) hx hb dX11_weight_9 (by decide) ?_
  have hP9 := hP.sub (ws' := [(g0, .inr (16, [.ref mj, .ref mq, .ref mm, .ref ms, .ref mf, .ref ml, .int 1, .int 0, .int 1, .int 0, .int (-1), .int 0, .int 0, .int 0, .int 0, .int 0, .long 0]))]) [0] rfl
  have hD9 := hD.sub (ws' := [(g0, .inr (16, [.ref mj, .ref mq, .ref mm, .ref ms, .ref mf, .ref ml, .int 1, .int 0, .int 1, .int 0, .int (-1), .int 0, .int 0, .int 0, .int 0, .int 0, .long 0]))]) [0] (by decide) rfl
  have hK9 := hK.sub (tys' := []) [] rfl
  refine W.widen (k := 0) (n := 0) (Nat.le_of_ble_eq_true rfl) (Nat.le_of_ble_eq_true rfl) ?_
  exact W.iret (v := 0) hx hb hr (fun t ht hW => ⟨⟨0, (), rfl, rfl, ⟨by rw [ht]; exact hP9, va_K.moved hW.alike hK9, hD9⟩⟩, hS.F ht⟩) hS.2.2 dX11_weight_17
def v_c_X11_stoneIn : List Cond := .code yX11_stoneIn cX11_stoneIn 2 (some .int) :: ([] ++ (wsV RX11 116 RX11 yX11_noPlace v_c_X11_noPlace))
set_option maxRecDepth 20000 in
theorem i_c_X11_stoneIn : ∀ w ∈ v_c_X11_stoneIn, w ∈ lw_tbl := List.forall_mem_cons.mpr ⟨List.mem_of_getElem? (i := 1843) (by decide +kernel), List.forall_mem_append.mpr ⟨fun _ h => absurd h List.not_mem_nil, (by unfold wsV; exact List.forall_mem_append.mpr ⟨List.forall_mem_cons.mpr ⟨List.mem_of_getElem? (i := 1533) (by decide +kernel), List.forall_mem_cons.mpr ⟨List.mem_of_getElem? (i := 1535) (by decide +kernel), List.forall_mem_cons.mpr ⟨List.mem_of_getElem? (i := 31) (by decide +kernel), List.forall_mem_cons.mpr ⟨List.mem_of_getElem? (i := 54) (by decide +kernel), fun _ h => absurd h List.not_mem_nil⟩⟩⟩⟩, i_c_X11_noPlace⟩)⟩⟩
set_option maxHeartbeats 4000000 in
set_option maxRecDepth 100000 in
theorem c_X11_stoneIn (l : Launch) (dC : Nat → ClassId) (dI : Nat → Nat → Nat) (e0 : Nat) (g0 : Nat) (p0 : Int32) (mj mq mm ms mf ml : Nat) (sz : Nat) : Met l yX11_stoneIn v_c_X11_stoneIn ({ frames := 4, cells := 0, slots := 0, locals := 92 }) (fz_P (dC, dI) e0 [(g0, .inr (16, [.ref mj, .ref mq, .ref mm, .ref ms, .ref mf, .ref ml, .int 0, .int 0, .int 1, .int 0, .int (-1), .int 0, .int 0, .int 0, .int 0, .int 0, .long 0])), (mj, .inr (4, [.int 0, .ref e0, .int 0]))] [] sz (va_A [(g0, .inr (16, [.ref mj, .ref mq, .ref mm, .ref ms, .ref mf, .ref ml, .int 0, .int 0, .int 1, .int 0, .int (-1), .int 0, .int 0, .int 0, .int 0, .int 0, .long 0])), (mj, .inr (4, [.int 0, .ref e0, .int 0]))] sz) [.ref g0, .int p0]) (va_Qi (fun (r : Int32) (u : Unit) => r = 0) (fun (u : Unit) (t : State) => va_P (dC, dI) vwCl [(g0, .inr (16, [.ref mj, .ref mq, .ref mm, .ref ms, .ref mf, .ref ml, .int 1, .int 0, .int 1, .int 0, .int (-1), .int 0, .int 0, .int 0, .int 0, .int 0, .long 0]))] t.heap ∧ va_K (dC, dI) vwCl [] t ∧ va_D (va_A [(g0, .inr (16, [.ref mj, .ref mq, .ref mm, .ref ms, .ref mf, .ref ml, .int 0, .int 0, .int 1, .int 0, .int (-1), .int 0, .int 0, .int 0, .int 0, .int 0, .long 0])), (mj, .inr (4, [.int 0, .ref e0, .int 0]))] sz) [(g0, .inr (16, [.ref mj, .ref mq, .ref mm, .ref ms, .ref mf, .ref ml, .int 1, .int 0, .int 1, .int 0, .int (-1), .int 0, .int 0, .int 0, .int 0, .int 0, .long 0]))]) (va_A [(g0, .inr (16, [.ref mj, .ref mq, .ref mm, .ref ms, .ref mf, .ref ml, .int 0, .int 0, .int 1, .int 0, .int (-1), .int 0, .int 0, .int 0, .int 0, .int 0, .long 0])), (mj, .inr (4, [.int 0, .ref e0, .int 0]))] sz)) 0 0 (va_A [(g0, .inr (16, [.ref mj, .ref mq, .ref mm, .ref ms, .ref mf, .ref ml, .int 0, .int 0, .int 1, .int 0, .int (-1), .int 0, .int 0, .int 0, .int 0, .int 0, .long 0])), (mj, .inr (4, [.int 0, .ref e0, .int 0]))] sz) := by
  refine Met.ofW (cc := cX11_stoneIn) (maxL := 2) (ret := (some .int)) (by decide) rfl ?_
  intro p e s m args below meth c s₁ B hml hv
  obtain ⟨rfl, hsz, hP, hK, hD0, hAm⟩ := hv
  have hx := B.exec
  have hb := B.bytes
  have hr := B.returns
  have hts := atoms_spec (ws := v_c_X11_stoneIn) B.pre
  have hown : s.vm.findClass RX11 = some m.cls := findClass_of_methodNamed B.named
  have hlocks := B.notSynchronized
  subst hsz
  have hD := hD0.self (sz := s.heap.size)
  generalize hAe : va_A [(g0, .inr (16, [.ref mj, .ref mq, .ref mm, .ref ms, .ref mf, .ref ml, .int 0, .int 0, .int 1, .int 0, .int (-1), .int 0, .int 0, .int 0, .int 0, .int 0, .long 0])), (mj, .inr (4, [.int 0, .ref e0, .int 0]))] s.heap.size = A at hD hAm ⊢
  have hA : ∀ q : Nat, s.heap.size ≤ q → A q := fun q h => by rw [← hAe]; exact Or.inr h
  have hS : va_S A s.heap s.heap [] := va_S.rf
  have hP : va_P (dC, dI) vwCl [(g0, .inr (16, [.ref mj, .ref mq, .ref mm, .ref ms, .ref mf, .ref ml, .int 0, .int 0, .int 1, .int 0, .int (-1), .int 0, .int 0, .int 0, .int 0, .int 0, .long 0])), (mj, .inr (4, [.int 0, .ref e0, .int 0]))] s.heap := hP
  have hl := lv_entry ([.ref g0, .int p0]) (n := 2) (Nat.le_of_ble_eq_true rfl)
  rw [lg_entry_eq]
  generalize (lg_sl ([.ref g0, .int p0]) ++ List.replicate (2 - (lg_sl ([.ref g0, .int p0])).length) Slot.unset).toArray = ls at hl ⊢
  have hl : lv_has ls 2 [(0, .ref g0), (1, .int p0)] := hl
  refine lv_aload_n hx hb dX11_stoneIn_0 rfl (lv_at hl 0 rfl) ?_
  refine lv_iload_n hx hb dX11_stoneIn_1 rfl (lv_at hl 1 rfl) ?_
  have hPc := hP.sub (ws' := [(g0, .inr (16, [.ref mj, .ref mq, .ref mm, .ref ms, .ref mf, .ref ml, .int 0, .int 0, .int 1, .int 0, .int (-1), .int 0, .int 0, .int 0, .int 0, .int 0, .long 0])), (mj, .inr (4, [.int 0, .ref e0, .int 0]))]) [0, 1] rfl
  have hDc := hD.sub (ws' := [(g0, .inr (16, [.ref mj, .ref mq, .ref mm, .ref ms, .ref mf, .ref ml, .int 0, .int 0, .int 1, .int 0, .int (-1), .int 0, .int 0, .int 0, .int 0, .int 0, .long 0])), (mj, .inr (4, [.int 0, .ref e0, .int 0]))]) [0, 1] (by decide) rfl
  have hKc := hK.sub (tys' := []) [] rfl
  have hFc := va_free (wc := [(g0, .inr (16, [.ref mj, .ref mq, .ref mm, .ref ms, .ref mf, .ref ml, .int 0, .int 0, .int 1, .int 0, .int (-1), .int 0, .int 0, .int 0, .int 0, .int 0, .long 0])), (mj, .inr (4, [.int 0, .ref e0, .int 0]))]) hD hS hA [0, 1] rfl
  refine va_calli (va_runV (As := [.int p0]) (rest := []) ⟨hx, hb, hml, hown, hts⟩ (c_X11_noPlace l dC dI e0 g0 p0 mj mq mm ms mf ml 0 s.heap.size) (cwV 1 hts (goodIn_sub (fun _ h9 => List.mem_cons_of_mem _ (List.mem_append_right _ (h9))) (by decide +kernel)) rfl rfl rfl (by decide +kernel) ⟨(Nat.le_of_ble_eq_true rfl), (Nat.le_of_ble_eq_true rfl)⟩) ⟨fz_blind, va_recv hKc hPc (ci := 16) (q0 := 0) rfl rfl, fz_pre hPc hKc hDc hAm hS hFc⟩ rfl rfl hl.1 rfl (lv_room (Nat.le_of_ble_eq_true rfl)) dX11_stoneIn_2 ⟨(Nat.le_of_ble_eq_true rfl), (Nat.le_of_ble_eq_true rfl)⟩) hS (fun q _ h => hFc q h) hFc (fun r u t H1 locs ht hvm hw hB hz1 hk1 hS => ?_)
  obtain rfl := hw
  obtain ⟨hP1, hK1, hD1⟩ := hB
  rw [ht] at hP1
  have hK1 := va_K.moved hvm.symm hK1
  obtain ⟨hP, hD⟩ := va_join (wr := []) (w1 := [(g0, .inr (16, [.ref mj, .ref mq, .ref mm, .ref ms, .ref mf, .ref ml, .int 1, .int 0, .int 1, .int 0, .int (-1), .int 0, .int 0, .int 0, .int 0, .int 0, .long 0]))]) hP hD [0, 1] [] rfl rfl (by decide) (by decide) hk1 hFc hP1 hD1
  generalize H1 = H at hP hS ⊢
  have hP : va_P (dC, dI) vwCl [(g0, .inr (16, [.ref mj, .ref mq, .ref mm, .ref ms, .ref mf, .ref ml, .int 1, .int 0, .int 1, .int 0, .int (-1), .int 0, .int 0, .int 0, .int 0, .int 0, .long 0]))] H := hP
  have hD : va_D A [(g0, .inr (16, [.ref mj, .ref mq, .ref mm, .ref ms, .ref mf, .ref ml, .int 1, .int 0, .int 1, .int 0, .int (-1), .int 0, .int 0, .int 0, .int 0, .int 0, .long 0]))] := hD
  have hK : va_K (dC, dI) vwCl [] s := hK
  refine W.widen (k := 0) (n := 0) (Nat.le_of_ble_eq_true rfl) (Nat.le_of_ble_eq_true rfl) ?_
  refine lv_if_ne (tgt := 31) hx hb dX11_stoneIn_5 (by decide) (fun _ => ?_) (fun c_9 => absurd c_9 (by decide))
  refine lv_iconst (v := 0) hx hb dX11_stoneIn_31 (by decide) ?_
  refine lv_goto (tgt := 41) hx hb dX11_stoneIn_32 (by decide) ?_
  have hP9 := hP.sub (ws' := [(g0, .inr (16, [.ref mj, .ref mq, .ref mm, .ref ms, .ref mf, .ref ml, .int 1, .int 0, .int 1, .int 0, .int (-1), .int 0, .int 0, .int 0, .int 0, .int 0, .long 0]))]) [0] rfl
  have hD9 := hD.sub (ws' := [(g0, .inr (16, [.ref mj, .ref mq, .ref mm, .ref ms, .ref mf, .ref ml, .int 1, .int 0, .int 1, .int 0, .int (-1), .int 0, .int 0, .int 0, .int 0, .int 0, .long 0]))]) [0] (by decide) rfl
  have hK9 := hK.sub (tys' := []) [] rfl
  refine W.widen (k := 0) (n := 0) (Nat.le_of_ble_eq_true rfl) (Nat.le_of_ble_eq_true rfl) ?_
  exact W.iret (v := 0) hx hb hr (fun t ht hW => ⟨⟨0, (), rfl, rfl, ⟨by rw [ht]; exact hP9, va_K.moved hW.alike hK9, hD9⟩⟩, hS.F ht⟩) hS.2.2 dX11_stoneIn_41
def v_c_X11_bestBlock : List Cond := .code yX11_bestBlock cX11_bestBlock 6 (some .int) :: ([] ++ (wsV RX11 116 RX11 yX11_noPlace v_c_X11_noPlace))
set_option maxRecDepth 20000 in
theorem i_c_X11_bestBlock : ∀ w ∈ v_c_X11_bestBlock, w ∈ lw_tbl := List.forall_mem_cons.mpr ⟨List.mem_of_getElem? (i := 1721) (by decide +kernel), List.forall_mem_append.mpr ⟨fun _ h => absurd h List.not_mem_nil, (by unfold wsV; exact List.forall_mem_append.mpr ⟨List.forall_mem_cons.mpr ⟨List.mem_of_getElem? (i := 1533) (by decide +kernel), List.forall_mem_cons.mpr ⟨List.mem_of_getElem? (i := 1535) (by decide +kernel), List.forall_mem_cons.mpr ⟨List.mem_of_getElem? (i := 31) (by decide +kernel), List.forall_mem_cons.mpr ⟨List.mem_of_getElem? (i := 54) (by decide +kernel), fun _ h => absurd h List.not_mem_nil⟩⟩⟩⟩, i_c_X11_noPlace⟩)⟩⟩
set_option maxHeartbeats 4000000 in
set_option maxRecDepth 100000 in
theorem c_X11_bestBlock (l : Launch) (dC : Nat → ClassId) (dI : Nat → Nat → Nat) (e0 : Nat) (g0 : Nat) (p0 : Int32) (mj mq mm ms mf ml : Nat) (sz : Nat) : Met l yX11_bestBlock v_c_X11_bestBlock ({ frames := 4, cells := 0, slots := 0, locals := 92 }) (fz_P (dC, dI) e0 [(g0, .inr (16, [.ref mj, .ref mq, .ref mm, .ref ms, .ref mf, .ref ml, .int 0, .int 0, .int 1, .int 0, .int (-1), .int 0, .int 0, .int 0, .int 0, .int 0, .long 0])), (mj, .inr (4, [.int 0, .ref e0, .int 0]))] [] sz (va_A [(g0, .inr (16, [.ref mj, .ref mq, .ref mm, .ref ms, .ref mf, .ref ml, .int 0, .int 0, .int 1, .int 0, .int (-1), .int 0, .int 0, .int 0, .int 0, .int 0, .long 0])), (mj, .inr (4, [.int 0, .ref e0, .int 0]))] sz) [.ref g0, .int p0]) (va_Qi (fun (r : Int32) (u : Unit) => r = 0) (fun (u : Unit) (t : State) => va_P (dC, dI) vwCl [(g0, .inr (16, [.ref mj, .ref mq, .ref mm, .ref ms, .ref mf, .ref ml, .int 1, .int 0, .int 1, .int 0, .int (-1), .int 0, .int 0, .int 0, .int 0, .int 0, .long 0]))] t.heap ∧ va_K (dC, dI) vwCl [] t ∧ va_D (va_A [(g0, .inr (16, [.ref mj, .ref mq, .ref mm, .ref ms, .ref mf, .ref ml, .int 0, .int 0, .int 1, .int 0, .int (-1), .int 0, .int 0, .int 0, .int 0, .int 0, .long 0])), (mj, .inr (4, [.int 0, .ref e0, .int 0]))] sz) [(g0, .inr (16, [.ref mj, .ref mq, .ref mm, .ref ms, .ref mf, .ref ml, .int 1, .int 0, .int 1, .int 0, .int (-1), .int 0, .int 0, .int 0, .int 0, .int 0, .long 0]))]) (va_A [(g0, .inr (16, [.ref mj, .ref mq, .ref mm, .ref ms, .ref mf, .ref ml, .int 0, .int 0, .int 1, .int 0, .int (-1), .int 0, .int 0, .int 0, .int 0, .int 0, .long 0])), (mj, .inr (4, [.int 0, .ref e0, .int 0]))] sz)) 0 0 (va_A [(g0, .inr (16, [.ref mj, .ref mq, .ref mm, .ref ms, .ref mf, .ref ml, .int 0, .int 0, .int 1, .int 0, .int (-1), .int 0, .int 0, .int 0, .int 0, .int 0, .long 0])), (mj, .inr (4, [.int 0, .ref e0, .int 0]))] sz) := by
  refine Met.ofW (cc := cX11_bestBlock) (maxL := 6) (ret := (some .int)) (by decide) rfl ?_
  intro p e s m args below meth c s₁ B hml hv
  obtain ⟨rfl, hsz, hP, hK, hD0, hAm⟩ := hv
  have hx := B.exec
  have hb := B.bytes
  have hr := B.returns
  have hts := atoms_spec (ws := v_c_X11_bestBlock) B.pre
  have hown : s.vm.findClass RX11 = some m.cls := findClass_of_methodNamed B.named
  have hlocks := B.notSynchronized
  subst hsz
  have hD := hD0.self (sz := s.heap.size)
  generalize hAe : va_A [(g0, .inr (16, [.ref mj, .ref mq, .ref mm, .ref ms, .ref mf, .ref ml, .int 0, .int 0, .int 1, .int 0, .int (-1), .int 0, .int 0, .int 0, .int 0, .int 0, .long 0])), (mj, .inr (4, [.int 0, .ref e0, .int 0]))] s.heap.size = A at hD hAm ⊢
  have hA : ∀ q : Nat, s.heap.size ≤ q → A q := fun q h => by rw [← hAe]; exact Or.inr h
  have hS : va_S A s.heap s.heap [] := va_S.rf
  have hP : va_P (dC, dI) vwCl [(g0, .inr (16, [.ref mj, .ref mq, .ref mm, .ref ms, .ref mf, .ref ml, .int 0, .int 0, .int 1, .int 0, .int (-1), .int 0, .int 0, .int 0, .int 0, .int 0, .long 0])), (mj, .inr (4, [.int 0, .ref e0, .int 0]))] s.heap := hP
  have hl := lv_entry ([.ref g0, .int p0]) (n := 6) (Nat.le_of_ble_eq_true rfl)
  rw [lg_entry_eq]
  generalize (lg_sl ([.ref g0, .int p0]) ++ List.replicate (6 - (lg_sl ([.ref g0, .int p0])).length) Slot.unset).toArray = ls at hl ⊢
  have hl : lv_has ls 6 [(0, .ref g0), (1, .int p0)] := hl
  refine lv_aload_n hx hb dX11_bestBlock_0 rfl (lv_at hl 0 rfl) ?_
  refine lv_iload_n hx hb dX11_bestBlock_1 rfl (lv_at hl 1 rfl) ?_
  have hPc := hP.sub (ws' := [(g0, .inr (16, [.ref mj, .ref mq, .ref mm, .ref ms, .ref mf, .ref ml, .int 0, .int 0, .int 1, .int 0, .int (-1), .int 0, .int 0, .int 0, .int 0, .int 0, .long 0])), (mj, .inr (4, [.int 0, .ref e0, .int 0]))]) [0, 1] rfl
  have hDc := hD.sub (ws' := [(g0, .inr (16, [.ref mj, .ref mq, .ref mm, .ref ms, .ref mf, .ref ml, .int 0, .int 0, .int 1, .int 0, .int (-1), .int 0, .int 0, .int 0, .int 0, .int 0, .long 0])), (mj, .inr (4, [.int 0, .ref e0, .int 0]))]) [0, 1] (by decide) rfl
  have hKc := hK.sub (tys' := []) [] rfl
  have hFc := va_free (wc := [(g0, .inr (16, [.ref mj, .ref mq, .ref mm, .ref ms, .ref mf, .ref ml, .int 0, .int 0, .int 1, .int 0, .int (-1), .int 0, .int 0, .int 0, .int 0, .int 0, .long 0])), (mj, .inr (4, [.int 0, .ref e0, .int 0]))]) hD hS hA [0, 1] rfl
  refine va_calli (va_runV (As := [.int p0]) (rest := []) ⟨hx, hb, hml, hown, hts⟩ (c_X11_noPlace l dC dI e0 g0 p0 mj mq mm ms mf ml 0 s.heap.size) (cwV 1 hts (goodIn_sub (fun _ h9 => List.mem_cons_of_mem _ (List.mem_append_right _ (h9))) (by decide +kernel)) rfl rfl rfl (by decide +kernel) ⟨(Nat.le_of_ble_eq_true rfl), (Nat.le_of_ble_eq_true rfl)⟩) ⟨fz_blind, va_recv hKc hPc (ci := 16) (q0 := 0) rfl rfl, fz_pre hPc hKc hDc hAm hS hFc⟩ rfl rfl hl.1 rfl (lv_room (Nat.le_of_ble_eq_true rfl)) dX11_bestBlock_2 ⟨(Nat.le_of_ble_eq_true rfl), (Nat.le_of_ble_eq_true rfl)⟩) hS (fun q _ h => hFc q h) hFc (fun r u t H1 locs ht hvm hw hB hz1 hk1 hS => ?_)
  obtain rfl := hw
  obtain ⟨hP1, hK1, hD1⟩ := hB
  rw [ht] at hP1
  have hK1 := va_K.moved hvm.symm hK1
  obtain ⟨hP, hD⟩ := va_join (wr := []) (w1 := [(g0, .inr (16, [.ref mj, .ref mq, .ref mm, .ref ms, .ref mf, .ref ml, .int 1, .int 0, .int 1, .int 0, .int (-1), .int 0, .int 0, .int 0, .int 0, .int 0, .long 0]))]) hP hD [0, 1] [] rfl rfl (by decide) (by decide) hk1 hFc hP1 hD1
  generalize H1 = H at hP hS ⊢
  have hP : va_P (dC, dI) vwCl [(g0, .inr (16, [.ref mj, .ref mq, .ref mm, .ref ms, .ref mf, .ref ml, .int 1, .int 0, .int 1, .int 0, .int (-1), .int 0, .int 0, .int 0, .int 0, .int 0, .long 0]))] H := hP
  have hD : va_D A [(g0, .inr (16, [.ref mj, .ref mq, .ref mm, .ref ms, .ref mf, .ref ml, .int 1, .int 0, .int 1, .int 0, .int (-1), .int 0, .int 0, .int 0, .int 0, .int 0, .long 0]))] := hD
  have hK : va_K (dC, dI) vwCl [] s := hK
  refine W.widen (k := 0) (n := 0) (Nat.le_of_ble_eq_true rfl) (Nat.le_of_ble_eq_true rfl) ?_
  refine lv_if_eq (tgt := 10) hx hb dX11_bestBlock_5 (by decide) (fun c_9 => absurd c_9 (by decide)) (fun _ => ?_)
  refine lv_iconst (v := 0) hx hb dX11_bestBlock_8 (by decide) ?_
  have hP9 := hP.sub (ws' := [(g0, .inr (16, [.ref mj, .ref mq, .ref mm, .ref ms, .ref mf, .ref ml, .int 1, .int 0, .int 1, .int 0, .int (-1), .int 0, .int 0, .int 0, .int 0, .int 0, .long 0]))]) [0] rfl
  have hD9 := hD.sub (ws' := [(g0, .inr (16, [.ref mj, .ref mq, .ref mm, .ref ms, .ref mf, .ref ml, .int 1, .int 0, .int 1, .int 0, .int (-1), .int 0, .int 0, .int 0, .int 0, .int 0, .long 0]))]) [0] (by decide) rfl
  have hK9 := hK.sub (tys' := []) [] rfl
  refine W.widen (k := 0) (n := 0) (Nat.le_of_ble_eq_true rfl) (Nat.le_of_ble_eq_true rfl) ?_
  exact W.iret (v := 0) hx hb hr (fun t ht hW => ⟨⟨0, (), rfl, rfl, ⟨by rw [ht]; exact hP9, va_K.moved hW.alike hK9, hD9⟩⟩, hS.F ht⟩) hS.2.2 dX11_bestBlock_9
def v_c_X11_isSafe : List Cond := .code yX11_isSafe cX11_isSafe 2 (some .boolean) :: ([] ++ (wsV RX11 161 RX11 yX11_isGrip v_c_X11_isGrip ++ (wsV RX11 65 RX11 yX11_no v_c_X11_no1 ++ (wsV RX11 54 RX11 yX11_many v_c_X11_many ++ (wsV RX11 65 RX11 yX11_no v_c_X11_no0)))))
set_option maxRecDepth 20000 in
theorem i_c_X11_isSafe : ∀ w ∈ v_c_X11_isSafe, w ∈ lw_tbl := List.forall_mem_cons.mpr ⟨List.mem_of_getElem? (i := 1560) (by decide +kernel), List.forall_mem_append.mpr ⟨fun _ h => absurd h List.not_mem_nil, List.forall_mem_append.mpr ⟨(by unfold wsV; exact List.forall_mem_append.mpr ⟨List.forall_mem_cons.mpr ⟨List.mem_of_getElem? (i := 1561) (by decide +kernel), List.forall_mem_cons.mpr ⟨List.mem_of_getElem? (i := 1563) (by decide +kernel), List.forall_mem_cons.mpr ⟨List.mem_of_getElem? (i := 36) (by decide +kernel), List.forall_mem_cons.mpr ⟨List.mem_of_getElem? (i := 54) (by decide +kernel), fun _ h => absurd h List.not_mem_nil⟩⟩⟩⟩, i_c_X11_isGrip⟩), List.forall_mem_append.mpr ⟨(by unfold wsV; exact List.forall_mem_append.mpr ⟨List.forall_mem_cons.mpr ⟨List.mem_of_getElem? (i := 1434) (by decide +kernel), List.forall_mem_cons.mpr ⟨List.mem_of_getElem? (i := 1436) (by decide +kernel), List.forall_mem_cons.mpr ⟨List.mem_of_getElem? (i := 25) (by decide +kernel), List.forall_mem_cons.mpr ⟨List.mem_of_getElem? (i := 54) (by decide +kernel), fun _ h => absurd h List.not_mem_nil⟩⟩⟩⟩, i_c_X11_no1⟩), List.forall_mem_append.mpr ⟨(by unfold wsV; exact List.forall_mem_append.mpr ⟨List.forall_mem_cons.mpr ⟨List.mem_of_getElem? (i := 1524) (by decide +kernel), List.forall_mem_cons.mpr ⟨List.mem_of_getElem? (i := 1526) (by decide +kernel), List.forall_mem_cons.mpr ⟨List.mem_of_getElem? (i := 30) (by decide +kernel), List.forall_mem_cons.mpr ⟨List.mem_of_getElem? (i := 54) (by decide +kernel), fun _ h => absurd h List.not_mem_nil⟩⟩⟩⟩, i_c_X11_many⟩), (by unfold wsV; exact List.forall_mem_append.mpr ⟨List.forall_mem_cons.mpr ⟨List.mem_of_getElem? (i := 1434) (by decide +kernel), List.forall_mem_cons.mpr ⟨List.mem_of_getElem? (i := 1436) (by decide +kernel), List.forall_mem_cons.mpr ⟨List.mem_of_getElem? (i := 25) (by decide +kernel), List.forall_mem_cons.mpr ⟨List.mem_of_getElem? (i := 54) (by decide +kernel), fun _ h => absurd h List.not_mem_nil⟩⟩⟩⟩, i_c_X11_no0⟩)⟩⟩⟩⟩⟩
set_option maxHeartbeats 4000000 in
set_option maxRecDepth 100000 in
theorem c_X11_isSafe (l : Launch) (dC : Nat → ClassId) (dI : Nat → Nat → Nat) (e0 : Nat) (g0 : Nat) (p0 : Int32) (mj mq mm ms mf ml : Nat) (sz : Nat) : Met l yX11_isSafe v_c_X11_isSafe ({ frames := 2, cells := 0, slots := 0, locals := 50 }) (fz_P (dC, dI) e0 [(g0, .inr (16, [.ref mj, .ref mq, .ref mm, .ref ms, .ref mf, .ref ml, .int 0, .int 0, .int 1, .int 0, .int (-1), .int 0, .int 0, .int 0, .int 0, .int 0, .long 0])), (mj, .inr (4, [.int 0, .ref e0, .int 0]))] [] sz (va_A [(g0, .inr (16, [.ref mj, .ref mq, .ref mm, .ref ms, .ref mf, .ref ml, .int 0, .int 0, .int 1, .int 0, .int (-1), .int 0, .int 0, .int 0, .int 0, .int 0, .long 0])), (mj, .inr (4, [.int 0, .ref e0, .int 0]))] sz) [.ref g0, .int p0]) (va_Qi (fun (r : Int32) (u : Int32) => (r = 0 ∧ u = 2 ∧ fz_in p0 0 10) ∨ (r = 0 ∧ u = 1 ∧ ¬ fz_in p0 0 10)) (fun (u : Int32) (t : State) => va_P (dC, dI) vwCl [(g0, .inr (16, [.ref mj, .ref mq, .ref mm, .ref ms, .ref mf, .ref ml, .int u, .int 0, .int 1, .int 0, .int (-1), .int 0, .int 0, .int 0, .int 0, .int 0, .long 0]))] t.heap ∧ va_K (dC, dI) vwCl [] t ∧ va_D (va_A [(g0, .inr (16, [.ref mj, .ref mq, .ref mm, .ref ms, .ref mf, .ref ml, .int 0, .int 0, .int 1, .int 0, .int (-1), .int 0, .int 0, .int 0, .int 0, .int 0, .long 0])), (mj, .inr (4, [.int 0, .ref e0, .int 0]))] sz) [(g0, .inr (16, [.ref mj, .ref mq, .ref mm, .ref ms, .ref mf, .ref ml, .int u, .int 0, .int 1, .int 0, .int (-1), .int 0, .int 0, .int 0, .int 0, .int 0, .long 0]))]) (va_A [(g0, .inr (16, [.ref mj, .ref mq, .ref mm, .ref ms, .ref mf, .ref ml, .int 0, .int 0, .int 1, .int 0, .int (-1), .int 0, .int 0, .int 0, .int 0, .int 0, .long 0])), (mj, .inr (4, [.int 0, .ref e0, .int 0]))] sz)) 0 0 (va_A [(g0, .inr (16, [.ref mj, .ref mq, .ref mm, .ref ms, .ref mf, .ref ml, .int 0, .int 0, .int 1, .int 0, .int (-1), .int 0, .int 0, .int 0, .int 0, .int 0, .long 0])), (mj, .inr (4, [.int 0, .ref e0, .int 0]))] sz) := by
  refine Met.ofW (cc := cX11_isSafe) (maxL := 2) (ret := (some .boolean)) (by decide) rfl ?_
  intro p e s m args below meth c s₁ B hml hv
  obtain ⟨rfl, hsz, hP, hK, hD0, hAm⟩ := hv
  have hx := B.exec
  have hb := B.bytes
  have hr := B.returns
  have hts := atoms_spec (ws := v_c_X11_isSafe) B.pre
  have hown : s.vm.findClass RX11 = some m.cls := findClass_of_methodNamed B.named
  have hlocks := B.notSynchronized
  subst hsz
  have hD := hD0.self (sz := s.heap.size)
  generalize hAe : va_A [(g0, .inr (16, [.ref mj, .ref mq, .ref mm, .ref ms, .ref mf, .ref ml, .int 0, .int 0, .int 1, .int 0, .int (-1), .int 0, .int 0, .int 0, .int 0, .int 0, .long 0])), (mj, .inr (4, [.int 0, .ref e0, .int 0]))] s.heap.size = A at hD hAm ⊢
  have hA : ∀ q : Nat, s.heap.size ≤ q → A q := fun q h => by rw [← hAe]; exact Or.inr h
  have hS : va_S A s.heap s.heap [] := va_S.rf
  have hP : va_P (dC, dI) vwCl [(g0, .inr (16, [.ref mj, .ref mq, .ref mm, .ref ms, .ref mf, .ref ml, .int 0, .int 0, .int 1, .int 0, .int (-1), .int 0, .int 0, .int 0, .int 0, .int 0, .long 0])), (mj, .inr (4, [.int 0, .ref e0, .int 0]))] s.heap := hP
  have hl := lv_entry ([.ref g0, .int p0]) (n := 2) (Nat.le_of_ble_eq_true rfl)
  rw [lg_entry_eq]
  generalize (lg_sl ([.ref g0, .int p0]) ++ List.replicate (2 - (lg_sl ([.ref g0, .int p0])).length) Slot.unset).toArray = ls at hl ⊢
  have hl : lv_has ls 2 [(0, .ref g0), (1, .int p0)] := hl
  refine lv_aload_n hx hb dX11_isSafe_0 rfl (lv_at hl 0 rfl) ?_
  refine lv_aload_n hx hb dX11_isSafe_1 rfl (lv_at hl 0 rfl) ?_
  refine lv_iload_n hx hb dX11_isSafe_2 rfl (lv_at hl 1 rfl) ?_
  have hPc := hP.sub (ws' := [(g0, .inr (16, [.ref mj, .ref mq, .ref mm, .ref ms, .ref mf, .ref ml, .int 0, .int 0, .int 1, .int 0, .int (-1), .int 0, .int 0, .int 0, .int 0, .int 0, .long 0]))]) [0] rfl
  have hDc := hD.sub (ws' := [(g0, .inr (16, [.ref mj, .ref mq, .ref mm, .ref ms, .ref mf, .ref ml, .int 0, .int 0, .int 1, .int 0, .int (-1), .int 0, .int 0, .int 0, .int 0, .int 0, .long 0]))]) [0] (by decide) rfl
  have hKc := hK.sub (tys' := []) [] rfl
  have hFc : ∀ q : Nat, s.heap.size ≤ q → A q := fun q h => hA q (Nat.le_trans hS.1 h)
  refine va_calli (va_runV (As := [.int p0]) (rest := [.ref g0]) ⟨hx, hb, hml, hown, hts⟩ (c_X11_isGrip l dC dI e0 g0 p0 mj mq mm ms mf ml 0 s.heap.size) (cwV 1 hts (goodIn_sub (fun _ h9 => List.mem_cons_of_mem _ (List.mem_append_right _ (List.mem_append_left _ h9))) (by decide +kernel)) rfl rfl rfl (by decide +kernel) ⟨(Nat.le_of_ble_eq_true rfl), (Nat.le_of_ble_eq_true rfl)⟩) ⟨fz_blind, va_recv hKc hPc (ci := 16) (q0 := 0) rfl rfl, fz_pre hPc hKc hDc hAm hS hFc⟩ rfl rfl hl.1 rfl (lv_room (Nat.le_of_ble_eq_true rfl)) dX11_isSafe_3 ⟨(Nat.le_of_ble_eq_true rfl), (Nat.le_of_ble_eq_true rfl)⟩) hS (fun q _ h => hFc q h) hFc (fun r u t H1 locs ht hvm hw hB hz1 hk1 hS => ?_)
  rcases hw with ⟨rfl, hp_1⟩ | ⟨rfl, hp_2⟩
  · have hP := fz_keep hP hk1
    generalize H1 = H at hP hS ⊢
    have hP : va_P (dC, dI) vwCl [(g0, .inr (16, [.ref mj, .ref mq, .ref mm, .ref ms, .ref mf, .ref ml, .int 0, .int 0, .int 1, .int 0, .int (-1), .int 0, .int 0, .int 0, .int 0, .int 0, .long 0])), (mj, .inr (4, [.int 0, .ref e0, .int 0]))] H := hP
    have hD : va_D A [(g0, .inr (16, [.ref mj, .ref mq, .ref mm, .ref ms, .ref mf, .ref ml, .int 0, .int 0, .int 1, .int 0, .int (-1), .int 0, .int 0, .int 0, .int 0, .int 0, .long 0])), (mj, .inr (4, [.int 0, .ref e0, .int 0]))] := hD
    refine W.widen (k := 0) (n := 0) (Nat.le_of_ble_eq_true rfl) (Nat.le_of_ble_eq_true rfl) ?_
    refine lv_iconst (v := 1) hx hb dX11_isSafe_6 (by decide) ?_
    have hPc := hP.sub (ws' := [(g0, .inr (16, [.ref mj, .ref mq, .ref mm, .ref ms, .ref mf, .ref ml, .int 0, .int 0, .int 1, .int 0, .int (-1), .int 0, .int 0, .int 0, .int 0, .int 0, .long 0]))]) [0] rfl
    have hDc := hD.sub (ws' := [(g0, .inr (16, [.ref mj, .ref mq, .ref mm, .ref ms, .ref mf, .ref ml, .int 0, .int 0, .int 1, .int 0, .int (-1), .int 0, .int 0, .int 0, .int 0, .int 0, .long 0]))]) [0] (by decide) rfl
    have hKc := hK.sub (tys' := []) [] rfl
    have hFc := va_free (wc := [(g0, .inr (16, [.ref mj, .ref mq, .ref mm, .ref ms, .ref mf, .ref ml, .int 0, .int 0, .int 1, .int 0, .int (-1), .int 0, .int 0, .int 0, .int 0, .int 0, .long 0]))]) hD hS hA [0] rfl
    refine va_calli (va_runV (As := [.int 1, .int 1]) (rest := []) ⟨hx, hb, hml, hown, hts⟩ (c_X11_no1 l dC dI e0 g0 1 mj mq mm ms mf ml 0 H.size) (cwV 2 hts (goodIn_sub (fun _ h9 => List.mem_cons_of_mem _ (List.mem_append_right _ (List.mem_append_right _ (List.mem_append_left _ h9)))) (by decide +kernel)) rfl rfl rfl (by decide +kernel) ⟨(Nat.le_of_ble_eq_true rfl), (Nat.le_of_ble_eq_true rfl)⟩) ⟨fz_blind, va_recv hKc hPc (ci := 16) (q0 := 0) rfl rfl, fz_pre hPc hKc hDc hAm hS hFc⟩ rfl rfl hl.1 rfl (lv_room (Nat.le_of_ble_eq_true rfl)) dX11_isSafe_7 ⟨(Nat.le_of_ble_eq_true rfl), (Nat.le_of_ble_eq_true rfl)⟩) hS (fun q _ h => hFc q h) hFc (fun r u t H1 locs ht hvm hw hB hz1 hk1 hS => ?_)
    obtain rfl := hw
    obtain ⟨hP1, hK1, hD1⟩ := hB
    rw [ht] at hP1
    have hK1 := va_K.moved hvm.symm hK1
    obtain ⟨hP, hD⟩ := va_join (wr := [(mj, .inr (4, [.int 0, .ref e0, .int 0]))]) (w1 := [(g0, .inr (16, [.ref mj, .ref mq, .ref mm, .ref ms, .ref mf, .ref ml, .int 0, .int 0, .int 1, .int 0, .int (-1), .int 0, .int 0, .int 0, .int 0, .int 0, .long 0]))]) hP hD [0] [1] rfl rfl (by decide) (by decide) hk1 hFc hP1 hD1
    generalize H1 = H at hP hS ⊢
    have hP : va_P (dC, dI) vwCl [(mj, .inr (4, [.int 0, .ref e0, .int 0])), (g0, .inr (16, [.ref mj, .ref mq, .ref mm, .ref ms, .ref mf, .ref ml, .int 0, .int 0, .int 1, .int 0, .int (-1), .int 0, .int 0, .int 0, .int 0, .int 0, .long 0]))] H := hP
    have hD : va_D A [(mj, .inr (4, [.int 0, .ref e0, .int 0])), (g0, .inr (16, [.ref mj, .ref mq, .ref mm, .ref ms, .ref mf, .ref ml, .int 0, .int 0, .int 1, .int 0, .int (-1), .int 0, .int 0, .int 0, .int 0, .int 0, .long 0]))] := hD
    have hK : va_K (dC, dI) vwCl [] s := hK
    refine W.widen (k := 0) (n := 0) (Nat.le_of_ble_eq_true rfl) (Nat.le_of_ble_eq_true rfl) ?_
    refine lv_if_ne (tgt := 46) hx hb dX11_isSafe_10 (by decide) (fun c_9 => absurd (by decide) c_9) (fun _ => ?_)
    refine lv_aload_n hx hb dX11_isSafe_13 rfl (lv_at hl 0 rfl) ?_
    refine lv_aload_n hx hb dX11_isSafe_14 rfl (lv_at hl 0 rfl) ?_
    have hPc := hP.sub (ws' := [(g0, .inr (16, [.ref mj, .ref mq, .ref mm, .ref ms, .ref mf, .ref ml, .int 0, .int 0, .int 1, .int 0, .int (-1), .int 0, .int 0, .int 0, .int 0, .int 0, .long 0])), (mj, .inr (4, [.int 0, .ref e0, .int 0]))]) [1, 0] rfl
    have hDc := hD.sub (ws' := [(g0, .inr (16, [.ref mj, .ref mq, .ref mm, .ref ms, .ref mf, .ref ml, .int 0, .int 0, .int 1, .int 0, .int (-1), .int 0, .int 0, .int 0, .int 0, .int 0, .long 0])), (mj, .inr (4, [.int 0, .ref e0, .int 0]))]) [1, 0] (by decide) rfl
    have hKc := hK.sub (tys' := []) [] rfl
    have hFc : ∀ q : Nat, H.size ≤ q → A q := fun q h => hA q (Nat.le_trans hS.1 h)
    refine va_calli (va_runV (As := []) (rest := [.ref g0]) ⟨hx, hb, hml, hown, hts⟩ (c_X11_many l dC dI e0 g0 mj mq mm ms mf ml 0 (-1) H.size) (cwV 0 hts (goodIn_sub (fun _ h9 => List.mem_cons_of_mem _ (List.mem_append_right _ (List.mem_append_right _ (List.mem_append_right _ (List.mem_append_left _ h9))))) (by decide +kernel)) rfl rfl rfl (by decide +kernel) ⟨(Nat.le_of_ble_eq_true rfl), (Nat.le_of_ble_eq_true rfl)⟩) ⟨fz_blind, va_recv hKc hPc (ci := 16) (q0 := 0) rfl rfl, fz_pre hPc hKc hDc hAm hS hFc⟩ rfl rfl hl.1 rfl (lv_room (Nat.le_of_ble_eq_true rfl)) dX11_isSafe_15 ⟨(Nat.le_of_ble_eq_true rfl), (Nat.le_of_ble_eq_true rfl)⟩) hS (fun q _ h => hFc q h) hFc (fun r u t H1 locs ht hvm hw hB hz1 hk1 hS => ?_)
    obtain rfl := hw
    have hP := fz_keep hP hk1
    generalize H1 = H at hP hS ⊢
    have hP : va_P (dC, dI) vwCl [(mj, .inr (4, [.int 0, .ref e0, .int 0])), (g0, .inr (16, [.ref mj, .ref mq, .ref mm, .ref ms, .ref mf, .ref ml, .int 0, .int 0, .int 1, .int 0, .int (-1), .int 0, .int 0, .int 0, .int 0, .int 0, .long 0]))] H := hP
    have hD : va_D A [(mj, .inr (4, [.int 0, .ref e0, .int 0])), (g0, .inr (16, [.ref mj, .ref mq, .ref mm, .ref ms, .ref mf, .ref ml, .int 0, .int 0, .int 1, .int 0, .int (-1), .int 0, .int 0, .int 0, .int 0, .int 0, .long 0]))] := hD
    refine W.widen (k := 0) (n := 0) (Nat.le_of_ble_eq_true rfl) (Nat.le_of_ble_eq_true rfl) ?_
    refine lv_iconst (v := 2) hx hb dX11_isSafe_18 (by decide) ?_
    refine lv_icmp_lt (tgt := 26) hx hb dX11_isSafe_19 (by decide) (fun _ => ?_) (fun c_9 => absurd (by decide) c_9)
    refine lv_iconst (v := 0) hx hb dX11_isSafe_26 (by decide) ?_
    refine lv_iconst (v := 2) hx hb dX11_isSafe_27 (by decide) ?_
    have hPc := hP.sub (ws' := [(g0, .inr (16, [.ref mj, .ref mq, .ref mm, .ref ms, .ref mf, .ref ml, .int 0, .int 0, .int 1, .int 0, .int (-1), .int 0, .int 0, .int 0, .int 0, .int 0, .long 0]))]) [1] rfl
    have hDc := hD.sub (ws' := [(g0, .inr (16, [.ref mj, .ref mq, .ref mm, .ref ms, .ref mf, .ref ml, .int 0, .int 0, .int 1, .int 0, .int (-1), .int 0, .int 0, .int 0, .int 0, .int 0, .long 0]))]) [1] (by decide) rfl
    have hKc := hK.sub (tys' := []) [] rfl
    have hFc := va_free (wc := [(g0, .inr (16, [.ref mj, .ref mq, .ref mm, .ref ms, .ref mf, .ref ml, .int 0, .int 0, .int 1, .int 0, .int (-1), .int 0, .int 0, .int 0, .int 0, .int 0, .long 0]))]) hD hS hA [1] rfl
    refine va_calli (va_runV (As := [.int 0, .int 2]) (rest := []) ⟨hx, hb, hml, hown, hts⟩ (c_X11_no0 l dC dI e0 g0 2 mj mq mm ms mf ml 0 H.size) (cwV 2 hts (goodIn_sub (fun _ h9 => List.mem_cons_of_mem _ (List.mem_append_right _ (List.mem_append_right _ (List.mem_append_right _ (List.mem_append_right _ h9))))) (by decide +kernel)) rfl rfl rfl (by decide +kernel) ⟨(Nat.le_of_ble_eq_true rfl), (Nat.le_of_ble_eq_true rfl)⟩) ⟨fz_blind, va_recv hKc hPc (ci := 16) (q0 := 0) rfl rfl, fz_pre hPc hKc hDc hAm hS hFc⟩ rfl rfl hl.1 rfl (lv_room (Nat.le_of_ble_eq_true rfl)) dX11_isSafe_28 ⟨(Nat.le_of_ble_eq_true rfl), (Nat.le_of_ble_eq_true rfl)⟩) hS (fun q _ h => hFc q h) hFc (fun r u t H1 locs ht hvm hw hB hz1 hk1 hS => ?_)
    obtain rfl := hw
    obtain ⟨hP1, hK1, hD1⟩ := hB
    rw [ht] at hP1
    have hK1 := va_K.moved hvm.symm hK1
    obtain ⟨hP, hD⟩ := va_join (wr := [(mj, .inr (4, [.int 0, .ref e0, .int 0]))]) (w1 := [(g0, .inr (16, [.ref mj, .ref mq, .ref mm, .ref ms, .ref mf, .ref ml, .int 2, .int 0, .int 1, .int 0, .int (-1), .int 0, .int 0, .int 0, .int 0, .int 0, .long 0]))]) hP hD [1] [0] rfl rfl (by decide) (by decide) hk1 hFc hP1 hD1
    generalize H1 = H at hP hS ⊢
    have hP : va_P (dC, dI) vwCl [(mj, .inr (4, [.int 0, .ref e0, .int 0])), (g0, .inr (16, [.ref mj, .ref mq, .ref mm, .ref ms, .ref mf, .ref ml, .int 2, .int 0, .int 1, .int 0, .int (-1), .int 0, .int 0, .int 0, .int 0, .int 0, .long 0]))] H := hP
    have hD : va_D A [(mj, .inr (4, [.int 0, .ref e0, .int 0])), (g0, .inr (16, [.ref mj, .ref mq, .ref mm, .ref ms, .ref mf, .ref ml, .int 2, .int 0, .int 1, .int 0, .int (-1), .int 0, .int 0, .int 0, .int 0, .int 0, .long 0]))] := hD
    have hK : va_K (dC, dI) vwCl [] s := hK
    refine W.widen (k := 0) (n := 0) (Nat.le_of_ble_eq_true rfl) (Nat.le_of_ble_eq_true rfl) ?_
    refine lv_if_ne (tgt := 46) hx hb dX11_isSafe_31 (by decide) (fun _ => ?_) (fun c_9 => absurd c_9 (by decide))
    refine lv_iconst (v := 0) hx hb dX11_isSafe_46 (by decide) ?_
    have hP9 := hP.sub (ws' := [(g0, .inr (16, [.ref mj, .ref mq, .ref mm, .ref ms, .ref mf, .ref ml, .int 2, .int 0, .int 1, .int 0, .int (-1), .int 0, .int 0, .int 0, .int 0, .int 0, .long 0]))]) [1] rfl
    have hD9 := hD.sub (ws' := [(g0, .inr (16, [.ref mj, .ref mq, .ref mm, .ref ms, .ref mf, .ref ml, .int 2, .int 0, .int 1, .int 0, .int (-1), .int 0, .int 0, .int 0, .int 0, .int 0, .long 0]))]) [1] (by decide) rfl
    have hK9 := hK.sub (tys' := []) [] rfl
    refine W.widen (k := 0) (n := 0) (Nat.le_of_ble_eq_true rfl) (Nat.le_of_ble_eq_true rfl) ?_
    exact W.zret (v := 0) hx hb hr rfl (fun t ht hW => ⟨⟨0, 2, rfl, Or.inl (⟨rfl, rfl, hp_1⟩), ⟨by rw [ht]; exact hP9, va_K.moved hW.alike hK9, hD9⟩⟩, hS.F ht⟩) hS.2.2 dX11_isSafe_47
  · have hP := fz_keep hP hk1
    generalize H1 = H at hP hS ⊢
    have hP : va_P (dC, dI) vwCl [(g0, .inr (16, [.ref mj, .ref mq, .ref mm, .ref ms, .ref mf, .ref ml, .int 0, .int 0, .int 1, .int 0, .int (-1), .int 0, .int 0, .int 0, .int 0, .int 0, .long 0])), (mj, .inr (4, [.int 0, .ref e0, .int 0]))] H := hP
    have hD : va_D A [(g0, .inr (16, [.ref mj, .ref mq, .ref mm, .ref ms, .ref mf, .ref ml, .int 0, .int 0, .int 1, .int 0, .int (-1), .int 0, .int 0, .int 0, .int 0, .int 0, .long 0])), (mj, .inr (4, [.int 0, .ref e0, .int 0]))] := hD
    refine W.widen (k := 0) (n := 0) (Nat.le_of_ble_eq_true rfl) (Nat.le_of_ble_eq_true rfl) ?_
    refine lv_iconst (v := 1) hx hb dX11_isSafe_6 (by decide) ?_
    have hPc := hP.sub (ws' := [(g0, .inr (16, [.ref mj, .ref mq, .ref mm, .ref ms, .ref mf, .ref ml, .int 0, .int 0, .int 1, .int 0, .int (-1), .int 0, .int 0, .int 0, .int 0, .int 0, .long 0]))]) [0] rfl
    have hDc := hD.sub (ws' := [(g0, .inr (16, [.ref mj, .ref mq, .ref mm, .ref ms, .ref mf, .ref ml, .int 0, .int 0, .int 1, .int 0, .int (-1), .int 0, .int 0, .int 0, .int 0, .int 0, .long 0]))]) [0] (by decide) rfl
    have hKc := hK.sub (tys' := []) [] rfl
    have hFc := va_free (wc := [(g0, .inr (16, [.ref mj, .ref mq, .ref mm, .ref ms, .ref mf, .ref ml, .int 0, .int 0, .int 1, .int 0, .int (-1), .int 0, .int 0, .int 0, .int 0, .int 0, .long 0]))]) hD hS hA [0] rfl
    refine va_calli (va_runV (As := [.int 0, .int 1]) (rest := []) ⟨hx, hb, hml, hown, hts⟩ (c_X11_no0 l dC dI e0 g0 1 mj mq mm ms mf ml 0 H.size) (cwV 2 hts (goodIn_sub (fun _ h9 => List.mem_cons_of_mem _ (List.mem_append_right _ (List.mem_append_right _ (List.mem_append_right _ (List.mem_append_right _ h9))))) (by decide +kernel)) rfl rfl rfl (by decide +kernel) ⟨(Nat.le_of_ble_eq_true rfl), (Nat.le_of_ble_eq_true rfl)⟩) ⟨fz_blind, va_recv hKc hPc (ci := 16) (q0 := 0) rfl rfl, fz_pre hPc hKc hDc hAm hS hFc⟩ rfl rfl hl.1 rfl (lv_room (Nat.le_of_ble_eq_true rfl)) dX11_isSafe_7 ⟨(Nat.le_of_ble_eq_true rfl), (Nat.le_of_ble_eq_true rfl)⟩) hS (fun q _ h => hFc q h) hFc (fun r u t H1 locs ht hvm hw hB hz1 hk1 hS => ?_)
    obtain rfl := hw
    obtain ⟨hP1, hK1, hD1⟩ := hB
    rw [ht] at hP1
    have hK1 := va_K.moved hvm.symm hK1
    obtain ⟨hP, hD⟩ := va_join (wr := [(mj, .inr (4, [.int 0, .ref e0, .int 0]))]) (w1 := [(g0, .inr (16, [.ref mj, .ref mq, .ref mm, .ref ms, .ref mf, .ref ml, .int 1, .int 0, .int 1, .int 0, .int (-1), .int 0, .int 0, .int 0, .int 0, .int 0, .long 0]))]) hP hD [0] [1] rfl rfl (by decide) (by decide) hk1 hFc hP1 hD1
    generalize H1 = H at hP hS ⊢
    have hP : va_P (dC, dI) vwCl [(mj, .inr (4, [.int 0, .ref e0, .int 0])), (g0, .inr (16, [.ref mj, .ref mq, .ref mm, .ref ms, .ref mf, .ref ml, .int 1, .int 0, .int 1, .int 0, .int (-1), .int 0, .int 0, .int 0, .int 0, .int 0, .long 0]))] H := hP
    have hD : va_D A [(mj, .inr (4, [.int 0, .ref e0, .int 0])), (g0, .inr (16, [.ref mj, .ref mq, .ref mm, .ref ms, .ref mf, .ref ml, .int 1, .int 0, .int 1, .int 0, .int (-1), .int 0, .int 0, .int 0, .int 0, .int 0, .long 0]))] := hD
    have hK : va_K (dC, dI) vwCl [] s := hK
    refine W.widen (k := 0) (n := 0) (Nat.le_of_ble_eq_true rfl) (Nat.le_of_ble_eq_true rfl) ?_
    refine lv_if_ne (tgt := 46) hx hb dX11_isSafe_10 (by decide) (fun _ => ?_) (fun c_9 => absurd c_9 (by decide))
    refine lv_iconst (v := 0) hx hb dX11_isSafe_46 (by decide) ?_
    have hP9 := hP.sub (ws' := [(g0, .inr (16, [.ref mj, .ref mq, .ref mm, .ref ms, .ref mf, .ref ml, .int 1, .int 0, .int 1, .int 0, .int (-1), .int 0, .int 0, .int 0, .int 0, .int 0, .long 0]))]) [1] rfl
    have hD9 := hD.sub (ws' := [(g0, .inr (16, [.ref mj, .ref mq, .ref mm, .ref ms, .ref mf, .ref ml, .int 1, .int 0, .int 1, .int 0, .int (-1), .int 0, .int 0, .int 0, .int 0, .int 0, .long 0]))]) [1] (by decide) rfl
    have hK9 := hK.sub (tys' := []) [] rfl
    refine W.widen (k := 0) (n := 0) (Nat.le_of_ble_eq_true rfl) (Nat.le_of_ble_eq_true rfl) ?_
    exact W.zret (v := 0) hx hb hr rfl (fun t ht hW => ⟨⟨0, 1, rfl, Or.inr (⟨rfl, rfl, hp_2⟩), ⟨by rw [ht]; exact hP9, va_K.moved hW.alike hK9, hD9⟩⟩, hS.F ht⟩) hS.2.2 dX11_isSafe_47
def v_c_X11_thrust : List Cond := .code yX11_thrust cX11_thrust 3 (some .long) :: ([] ++ (wsV RX11 161 RX11 yX11_isGrip v_c_X11_isGrip ++ (wsV RX11 65 RX11 yX11_no v_c_X11_no1 ++ (wsV RX11 54 RX11 yX11_many v_c_X11_many ++ (wsV RX11 65 RX11 yX11_no v_c_X11_no0)))))
set_option maxRecDepth 20000 in
theorem i_c_X11_thrust : ∀ w ∈ v_c_X11_thrust, w ∈ lw_tbl := List.forall_mem_cons.mpr ⟨List.mem_of_getElem? (i := 1654) (by decide +kernel), List.forall_mem_append.mpr ⟨fun _ h => absurd h List.not_mem_nil, List.forall_mem_append.mpr ⟨(by unfold wsV; exact List.forall_mem_append.mpr ⟨List.forall_mem_cons.mpr ⟨List.mem_of_getElem? (i := 1561) (by decide +kernel), List.forall_mem_cons.mpr ⟨List.mem_of_getElem? (i := 1563) (by decide +kernel), List.forall_mem_cons.mpr ⟨List.mem_of_getElem? (i := 36) (by decide +kernel), List.forall_mem_cons.mpr ⟨List.mem_of_getElem? (i := 54) (by decide +kernel), fun _ h => absurd h List.not_mem_nil⟩⟩⟩⟩, i_c_X11_isGrip⟩), List.forall_mem_append.mpr ⟨(by unfold wsV; exact List.forall_mem_append.mpr ⟨List.forall_mem_cons.mpr ⟨List.mem_of_getElem? (i := 1434) (by decide +kernel), List.forall_mem_cons.mpr ⟨List.mem_of_getElem? (i := 1436) (by decide +kernel), List.forall_mem_cons.mpr ⟨List.mem_of_getElem? (i := 25) (by decide +kernel), List.forall_mem_cons.mpr ⟨List.mem_of_getElem? (i := 54) (by decide +kernel), fun _ h => absurd h List.not_mem_nil⟩⟩⟩⟩, i_c_X11_no1⟩), List.forall_mem_append.mpr ⟨(by unfold wsV; exact List.forall_mem_append.mpr ⟨List.forall_mem_cons.mpr ⟨List.mem_of_getElem? (i := 1524) (by decide +kernel), List.forall_mem_cons.mpr ⟨List.mem_of_getElem? (i := 1526) (by decide +kernel), List.forall_mem_cons.mpr ⟨List.mem_of_getElem? (i := 30) (by decide +kernel), List.forall_mem_cons.mpr ⟨List.mem_of_getElem? (i := 54) (by decide +kernel), fun _ h => absurd h List.not_mem_nil⟩⟩⟩⟩, i_c_X11_many⟩), (by unfold wsV; exact List.forall_mem_append.mpr ⟨List.forall_mem_cons.mpr ⟨List.mem_of_getElem? (i := 1434) (by decide +kernel), List.forall_mem_cons.mpr ⟨List.mem_of_getElem? (i := 1436) (by decide +kernel), List.forall_mem_cons.mpr ⟨List.mem_of_getElem? (i := 25) (by decide +kernel), List.forall_mem_cons.mpr ⟨List.mem_of_getElem? (i := 54) (by decide +kernel), fun _ h => absurd h List.not_mem_nil⟩⟩⟩⟩, i_c_X11_no0⟩)⟩⟩⟩⟩⟩
set_option maxHeartbeats 4000000 in
set_option maxRecDepth 100000 in
theorem c_X11_thrust (l : Launch) (dC : Nat → ClassId) (dI : Nat → Nat → Nat) (e0 : Nat) (g0 : Nat) (p0 : Int32) (mj mq mm ms mf ml : Nat) (sz : Nat) : Met l yX11_thrust v_c_X11_thrust ({ frames := 2, cells := 0, slots := 0, locals := 50 }) (fz_P (dC, dI) e0 [(g0, .inr (16, [.ref mj, .ref mq, .ref mm, .ref ms, .ref mf, .ref ml, .int 0, .int 0, .int 1, .int 0, .int (-1), .int 0, .int 0, .int 0, .int 0, .int 0, .long 0])), (mj, .inr (4, [.int 0, .ref e0, .int 0]))] [] sz (va_A [(g0, .inr (16, [.ref mj, .ref mq, .ref mm, .ref ms, .ref mf, .ref ml, .int 0, .int 0, .int 1, .int 0, .int (-1), .int 0, .int 0, .int 0, .int 0, .int 0, .long 0])), (mj, .inr (4, [.int 0, .ref e0, .int 0]))] sz) [.ref g0, .int p0]) (va_Ql (fun (r : Int64) (u : Int32) => (r = (0 : Int32).toInt64 ∧ u = 2 ∧ fz_in p0 0 10) ∨ (r = (0 : Int32).toInt64 ∧ u = 1 ∧ ¬ fz_in p0 0 10)) (fun (u : Int32) (t : State) => va_P (dC, dI) vwCl [(g0, .inr (16, [.ref mj, .ref mq, .ref mm, .ref ms, .ref mf, .ref ml, .int u, .int 0, .int 1, .int 0, .int (-1), .int 0, .int 0, .int 0, .int 0, .int 0, .long 0]))] t.heap ∧ va_K (dC, dI) vwCl [] t ∧ va_D (va_A [(g0, .inr (16, [.ref mj, .ref mq, .ref mm, .ref ms, .ref mf, .ref ml, .int 0, .int 0, .int 1, .int 0, .int (-1), .int 0, .int 0, .int 0, .int 0, .int 0, .long 0])), (mj, .inr (4, [.int 0, .ref e0, .int 0]))] sz) [(g0, .inr (16, [.ref mj, .ref mq, .ref mm, .ref ms, .ref mf, .ref ml, .int u, .int 0, .int 1, .int 0, .int (-1), .int 0, .int 0, .int 0, .int 0, .int 0, .long 0]))]) (va_A [(g0, .inr (16, [.ref mj, .ref mq, .ref mm, .ref ms, .ref mf, .ref ml, .int 0, .int 0, .int 1, .int 0, .int (-1), .int 0, .int 0, .int 0, .int 0, .int 0, .long 0])), (mj, .inr (4, [.int 0, .ref e0, .int 0]))] sz)) 0 0 (va_A [(g0, .inr (16, [.ref mj, .ref mq, .ref mm, .ref ms, .ref mf, .ref ml, .int 0, .int 0, .int 1, .int 0, .int (-1), .int 0, .int 0, .int 0, .int 0, .int 0, .long 0])), (mj, .inr (4, [.int 0, .ref e0, .int 0]))] sz) := by
  refine Met.ofW (cc := cX11_thrust) (maxL := 3) (ret := (some .long)) (by decide) rfl ?_
  intro p e s m args below meth c s₁ B hml hv
  obtain ⟨rfl, hsz, hP, hK, hD0, hAm⟩ := hv
  have hx := B.exec
  have hb := B.bytes
  have hr := B.returns
  have hts := atoms_spec (ws := v_c_X11_thrust) B.pre
  have hown : s.vm.findClass RX11 = some m.cls := findClass_of_methodNamed B.named
  have hlocks := B.notSynchronized
  subst hsz
  have hD := hD0.self (sz := s.heap.size)
  generalize hAe : va_A [(g0, .inr (16, [.ref mj, .ref mq, .ref mm, .ref ms, .ref mf, .ref ml, .int 0, .int 0, .int 1, .int 0, .int (-1), .int 0, .int 0, .int 0, .int 0, .int 0, .long 0])), (mj, .inr (4, [.int 0, .ref e0, .int 0]))] s.heap.size = A at hD hAm ⊢
  have hA : ∀ q : Nat, s.heap.size ≤ q → A q := fun q h => by rw [← hAe]; exact Or.inr h
  have hS : va_S A s.heap s.heap [] := va_S.rf
  have hP : va_P (dC, dI) vwCl [(g0, .inr (16, [.ref mj, .ref mq, .ref mm, .ref ms, .ref mf, .ref ml, .int 0, .int 0, .int 1, .int 0, .int (-1), .int 0, .int 0, .int 0, .int 0, .int 0, .long 0])), (mj, .inr (4, [.int 0, .ref e0, .int 0]))] s.heap := hP
  have hl := lv_entry ([.ref g0, .int p0]) (n := 3) (Nat.le_of_ble_eq_true rfl)
  rw [lg_entry_eq]
  generalize (lg_sl ([.ref g0, .int p0]) ++ List.replicate (3 - (lg_sl ([.ref g0, .int p0])).length) Slot.unset).toArray = ls at hl ⊢
  have hl : lv_has ls 3 [(0, .ref g0), (1, .int p0)] := hl
  refine lv_aload_n hx hb dX11_thrust_0 rfl (lv_at hl 0 rfl) ?_
  refine lv_aload_n hx hb dX11_thrust_1 rfl (lv_at hl 0 rfl) ?_
  refine lv_iload_n hx hb dX11_thrust_2 rfl (lv_at hl 1 rfl) ?_
  have hPc := hP.sub (ws' := [(g0, .inr (16, [.ref mj, .ref mq, .ref mm, .ref ms, .ref mf, .ref ml, .int 0, .int 0, .int 1, .int 0, .int (-1), .int 0, .int 0, .int 0, .int 0, .int 0, .long 0]))]) [0] rfl
  have hDc := hD.sub (ws' := [(g0, .inr (16, [.ref mj, .ref mq, .ref mm, .ref ms, .ref mf, .ref ml, .int 0, .int 0, .int 1, .int 0, .int (-1), .int 0, .int 0, .int 0, .int 0, .int 0, .long 0]))]) [0] (by decide) rfl
  have hKc := hK.sub (tys' := []) [] rfl
  have hFc : ∀ q : Nat, s.heap.size ≤ q → A q := fun q h => hA q (Nat.le_trans hS.1 h)
  refine va_calli (va_runV (As := [.int p0]) (rest := [.ref g0]) ⟨hx, hb, hml, hown, hts⟩ (c_X11_isGrip l dC dI e0 g0 p0 mj mq mm ms mf ml 0 s.heap.size) (cwV 1 hts (goodIn_sub (fun _ h9 => List.mem_cons_of_mem _ (List.mem_append_right _ (List.mem_append_left _ h9))) (by decide +kernel)) rfl rfl rfl (by decide +kernel) ⟨(Nat.le_of_ble_eq_true rfl), (Nat.le_of_ble_eq_true rfl)⟩) ⟨fz_blind, va_recv hKc hPc (ci := 16) (q0 := 0) rfl rfl, fz_pre hPc hKc hDc hAm hS hFc⟩ rfl rfl hl.1 rfl (lv_room (Nat.le_of_ble_eq_true rfl)) dX11_thrust_3 ⟨(Nat.le_of_ble_eq_true rfl), (Nat.le_of_ble_eq_true rfl)⟩) hS (fun q _ h => hFc q h) hFc (fun r u t H1 locs ht hvm hw hB hz1 hk1 hS => ?_)
  rcases hw with ⟨rfl, hp_1⟩ | ⟨rfl, hp_2⟩
  · have hP := fz_keep hP hk1
    generalize H1 = H at hP hS ⊢
    have hP : va_P (dC, dI) vwCl [(g0, .inr (16, [.ref mj, .ref mq, .ref mm, .ref ms, .ref mf, .ref ml, .int 0, .int 0, .int 1, .int 0, .int (-1), .int 0, .int 0, .int 0, .int 0, .int 0, .long 0])), (mj, .inr (4, [.int 0, .ref e0, .int 0]))] H := hP
    have hD : va_D A [(g0, .inr (16, [.ref mj, .ref mq, .ref mm, .ref ms, .ref mf, .ref ml, .int 0, .int 0, .int 1, .int 0, .int (-1), .int 0, .int 0, .int 0, .int 0, .int 0, .long 0])), (mj, .inr (4, [.int 0, .ref e0, .int 0]))] := hD
    refine W.widen (k := 0) (n := 0) (Nat.le_of_ble_eq_true rfl) (Nat.le_of_ble_eq_true rfl) ?_
    refine lv_iconst (v := 1) hx hb dX11_thrust_6 (by decide) ?_
    have hPc := hP.sub (ws' := [(g0, .inr (16, [.ref mj, .ref mq, .ref mm, .ref ms, .ref mf, .ref ml, .int 0, .int 0, .int 1, .int 0, .int (-1), .int 0, .int 0, .int 0, .int 0, .int 0, .long 0]))]) [0] rfl
    have hDc := hD.sub (ws' := [(g0, .inr (16, [.ref mj, .ref mq, .ref mm, .ref ms, .ref mf, .ref ml, .int 0, .int 0, .int 1, .int 0, .int (-1), .int 0, .int 0, .int 0, .int 0, .int 0, .long 0]))]) [0] (by decide) rfl
    have hKc := hK.sub (tys' := []) [] rfl
    have hFc := va_free (wc := [(g0, .inr (16, [.ref mj, .ref mq, .ref mm, .ref ms, .ref mf, .ref ml, .int 0, .int 0, .int 1, .int 0, .int (-1), .int 0, .int 0, .int 0, .int 0, .int 0, .long 0]))]) hD hS hA [0] rfl
    refine va_calli (va_runV (As := [.int 1, .int 1]) (rest := []) ⟨hx, hb, hml, hown, hts⟩ (c_X11_no1 l dC dI e0 g0 1 mj mq mm ms mf ml 0 H.size) (cwV 2 hts (goodIn_sub (fun _ h9 => List.mem_cons_of_mem _ (List.mem_append_right _ (List.mem_append_right _ (List.mem_append_left _ h9)))) (by decide +kernel)) rfl rfl rfl (by decide +kernel) ⟨(Nat.le_of_ble_eq_true rfl), (Nat.le_of_ble_eq_true rfl)⟩) ⟨fz_blind, va_recv hKc hPc (ci := 16) (q0 := 0) rfl rfl, fz_pre hPc hKc hDc hAm hS hFc⟩ rfl rfl hl.1 rfl (lv_room (Nat.le_of_ble_eq_true rfl)) dX11_thrust_7 ⟨(Nat.le_of_ble_eq_true rfl), (Nat.le_of_ble_eq_true rfl)⟩) hS (fun q _ h => hFc q h) hFc (fun r u t H1 locs ht hvm hw hB hz1 hk1 hS => ?_)
    obtain rfl := hw
    obtain ⟨hP1, hK1, hD1⟩ := hB
    rw [ht] at hP1
    have hK1 := va_K.moved hvm.symm hK1
    obtain ⟨hP, hD⟩ := va_join (wr := [(mj, .inr (4, [.int 0, .ref e0, .int 0]))]) (w1 := [(g0, .inr (16, [.ref mj, .ref mq, .ref mm, .ref ms, .ref mf, .ref ml, .int 0, .int 0, .int 1, .int 0, .int (-1), .int 0, .int 0, .int 0, .int 0, .int 0, .long 0]))]) hP hD [0] [1] rfl rfl (by decide) (by decide) hk1 hFc hP1 hD1
    generalize H1 = H at hP hS ⊢
    have hP : va_P (dC, dI) vwCl [(mj, .inr (4, [.int 0, .ref e0, .int 0])), (g0, .inr (16, [.ref mj, .ref mq, .ref mm, .ref ms, .ref mf, .ref ml, .int 0, .int 0, .int 1, .int 0, .int (-1), .int 0, .int 0, .int 0, .int 0, .int 0, .long 0]))] H := hP
    have hD : va_D A [(mj, .inr (4, [.int 0, .ref e0, .int 0])), (g0, .inr (16, [.ref mj, .ref mq, .ref mm, .ref ms, .ref mf, .ref ml, .int 0, .int 0, .int 1, .int 0, .int (-1), .int 0, .int 0, .int 0, .int 0, .int 0, .long 0]))] := hD
    have hK : va_K (dC, dI) vwCl [] s := hK
    refine W.widen (k := 0) (n := 0) (Nat.le_of_ble_eq_true rfl) (Nat.le_of_ble_eq_true rfl) ?_
    refine lv_if_ne (tgt := 34) hx hb dX11_thrust_10 (by decide) (fun c_9 => absurd (by decide) c_9) (fun _ => ?_)
    refine lv_aload_n hx hb dX11_thrust_13 rfl (lv_at hl 0 rfl) ?_
    refine lv_aload_n hx hb dX11_thrust_14 rfl (lv_at hl 0 rfl) ?_
    have hPc := hP.sub (ws' := [(g0, .inr (16, [.ref mj, .ref mq, .ref mm, .ref ms, .ref mf, .ref ml, .int 0, .int 0, .int 1, .int 0, .int (-1), .int 0, .int 0, .int 0, .int 0, .int 0, .long 0])), (mj, .inr (4, [.int 0, .ref e0, .int 0]))]) [1, 0] rfl
    have hDc := hD.sub (ws' := [(g0, .inr (16, [.ref mj, .ref mq, .ref mm, .ref ms, .ref mf, .ref ml, .int 0, .int 0, .int 1, .int 0, .int (-1), .int 0, .int 0, .int 0, .int 0, .int 0, .long 0])), (mj, .inr (4, [.int 0, .ref e0, .int 0]))]) [1, 0] (by decide) rfl
    have hKc := hK.sub (tys' := []) [] rfl
    have hFc : ∀ q : Nat, H.size ≤ q → A q := fun q h => hA q (Nat.le_trans hS.1 h)
    refine va_calli (va_runV (As := []) (rest := [.ref g0]) ⟨hx, hb, hml, hown, hts⟩ (c_X11_many l dC dI e0 g0 mj mq mm ms mf ml 0 (-1) H.size) (cwV 0 hts (goodIn_sub (fun _ h9 => List.mem_cons_of_mem _ (List.mem_append_right _ (List.mem_append_right _ (List.mem_append_right _ (List.mem_append_left _ h9))))) (by decide +kernel)) rfl rfl rfl (by decide +kernel) ⟨(Nat.le_of_ble_eq_true rfl), (Nat.le_of_ble_eq_true rfl)⟩) ⟨fz_blind, va_recv hKc hPc (ci := 16) (q0 := 0) rfl rfl, fz_pre hPc hKc hDc hAm hS hFc⟩ rfl rfl hl.1 rfl (lv_room (Nat.le_of_ble_eq_true rfl)) dX11_thrust_15 ⟨(Nat.le_of_ble_eq_true rfl), (Nat.le_of_ble_eq_true rfl)⟩) hS (fun q _ h => hFc q h) hFc (fun r u t H1 locs ht hvm hw hB hz1 hk1 hS => ?_)
    obtain rfl := hw
    have hP := fz_keep hP hk1
    generalize H1 = H at hP hS ⊢
    have hP : va_P (dC, dI) vwCl [(mj, .inr (4, [.int 0, .ref e0, .int 0])), (g0, .inr (16, [.ref mj, .ref mq, .ref mm, .ref ms, .ref mf, .ref ml, .int 0, .int 0, .int 1, .int 0, .int (-1), .int 0, .int 0, .int 0, .int 0, .int 0, .long 0]))] H := hP
    have hD : va_D A [(mj, .inr (4, [.int 0, .ref e0, .int 0])), (g0, .inr (16, [.ref mj, .ref mq, .ref mm, .ref ms, .ref mf, .ref ml, .int 0, .int 0, .int 1, .int 0, .int (-1), .int 0, .int 0, .int 0, .int 0, .int 0, .long 0]))] := hD
    refine W.widen (k := 0) (n := 0) (Nat.le_of_ble_eq_true rfl) (Nat.le_of_ble_eq_true rfl) ?_
    refine lv_iconst (v := 2) hx hb dX11_thrust_18 (by decide) ?_
    refine lv_icmp_lt (tgt := 26) hx hb dX11_thrust_19 (by decide) (fun _ => ?_) (fun c_9 => absurd (by decide) c_9)
    refine lv_iconst (v := 0) hx hb dX11_thrust_26 (by decide) ?_
    refine lv_iconst (v := 2) hx hb dX11_thrust_27 (by decide) ?_
    have hPc := hP.sub (ws' := [(g0, .inr (16, [.ref mj, .ref mq, .ref mm, .ref ms, .ref mf, .ref ml, .int 0, .int 0, .int 1, .int 0, .int (-1), .int 0, .int 0, .int 0, .int 0, .int 0, .long 0]))]) [1] rfl
    have hDc := hD.sub (ws' := [(g0, .inr (16, [.ref mj, .ref mq, .ref mm, .ref ms, .ref mf, .ref ml, .int 0, .int 0, .int 1, .int 0, .int (-1), .int 0, .int 0, .int 0, .int 0, .int 0, .long 0]))]) [1] (by decide) rfl
    have hKc := hK.sub (tys' := []) [] rfl
    have hFc := va_free (wc := [(g0, .inr (16, [.ref mj, .ref mq, .ref mm, .ref ms, .ref mf, .ref ml, .int 0, .int 0, .int 1, .int 0, .int (-1), .int 0, .int 0, .int 0, .int 0, .int 0, .long 0]))]) hD hS hA [1] rfl
    refine va_calli (va_runV (As := [.int 0, .int 2]) (rest := []) ⟨hx, hb, hml, hown, hts⟩ (c_X11_no0 l dC dI e0 g0 2 mj mq mm ms mf ml 0 H.size) (cwV 2 hts (goodIn_sub (fun _ h9 => List.mem_cons_of_mem _ (List.mem_append_right _ (List.mem_append_right _ (List.mem_append_right _ (List.mem_append_right _ h9))))) (by decide +kernel)) rfl rfl rfl (by decide +kernel) ⟨(Nat.le_of_ble_eq_true rfl), (Nat.le_of_ble_eq_true rfl)⟩) ⟨fz_blind, va_recv hKc hPc (ci := 16) (q0 := 0) rfl rfl, fz_pre hPc hKc hDc hAm hS hFc⟩ rfl rfl hl.1 rfl (lv_room (Nat.le_of_ble_eq_true rfl)) dX11_thrust_28 ⟨(Nat.le_of_ble_eq_true rfl), (Nat.le_of_ble_eq_true rfl)⟩) hS (fun q _ h => hFc q h) hFc (fun r u t H1 locs ht hvm hw hB hz1 hk1 hS => ?_)
    obtain rfl := hw
    obtain ⟨hP1, hK1, hD1⟩ := hB
    rw [ht] at hP1
    have hK1 := va_K.moved hvm.symm hK1
    obtain ⟨hP, hD⟩ := va_join (wr := [(mj, .inr (4, [.int 0, .ref e0, .int 0]))]) (w1 := [(g0, .inr (16, [.ref mj, .ref mq, .ref mm, .ref ms, .ref mf, .ref ml, .int 2, .int 0, .int 1, .int 0, .int (-1), .int 0, .int 0, .int 0, .int 0, .int 0, .long 0]))]) hP hD [1] [0] rfl rfl (by decide) (by decide) hk1 hFc hP1 hD1
    generalize H1 = H at hP hS ⊢
    have hP : va_P (dC, dI) vwCl [(mj, .inr (4, [.int 0, .ref e0, .int 0])), (g0, .inr (16, [.ref mj, .ref mq, .ref mm, .ref ms, .ref mf, .ref ml, .int 2, .int 0, .int 1, .int 0, .int (-1), .int 0, .int 0, .int 0, .int 0, .int 0, .long 0]))] H := hP
    have hD : va_D A [(mj, .inr (4, [.int 0, .ref e0, .int 0])), (g0, .inr (16, [.ref mj, .ref mq, .ref mm, .ref ms, .ref mf, .ref ml, .int 2, .int 0, .int 1, .int 0, .int (-1), .int 0, .int 0, .int 0, .int 0, .int 0, .long 0]))] := hD
    have hK : va_K (dC, dI) vwCl [] s := hK
    refine W.widen (k := 0) (n := 0) (Nat.le_of_ble_eq_true rfl) (Nat.le_of_ble_eq_true rfl) ?_
    refine lv_if_eq (tgt := 36) hx hb dX11_thrust_31 (by decide) (fun c_9 => absurd c_9 (by decide)) (fun _ => ?_)
    refine lv_lconst (v := (0 : Int32).toInt64) hx hb dX11_thrust_34 (by decide) ?_
    have hP9 := hP.sub (ws' := [(g0, .inr (16, [.ref mj, .ref mq, .ref mm, .ref ms, .ref mf, .ref ml, .int 2, .int 0, .int 1, .int 0, .int (-1), .int 0, .int 0, .int 0, .int 0, .int 0, .long 0]))]) [1] rfl
    have hD9 := hD.sub (ws' := [(g0, .inr (16, [.ref mj, .ref mq, .ref mm, .ref ms, .ref mf, .ref ml, .int 2, .int 0, .int 1, .int 0, .int (-1), .int 0, .int 0, .int 0, .int 0, .int 0, .long 0]))]) [1] (by decide) rfl
    have hK9 := hK.sub (tys' := []) [] rfl
    refine W.widen (k := 0) (n := 0) (Nat.le_of_ble_eq_true rfl) (Nat.le_of_ble_eq_true rfl) ?_
    exact W.lret (v := ((0 : Int32).toInt64)) hx hb hr (fun t ht hW => ⟨⟨((0 : Int32).toInt64), 2, rfl, Or.inl (⟨rfl, rfl, hp_1⟩), ⟨by rw [ht]; exact hP9, va_K.moved hW.alike hK9, hD9⟩⟩, hS.F ht⟩) hS.2.2 dX11_thrust_35
  · have hP := fz_keep hP hk1
    generalize H1 = H at hP hS ⊢
    have hP : va_P (dC, dI) vwCl [(g0, .inr (16, [.ref mj, .ref mq, .ref mm, .ref ms, .ref mf, .ref ml, .int 0, .int 0, .int 1, .int 0, .int (-1), .int 0, .int 0, .int 0, .int 0, .int 0, .long 0])), (mj, .inr (4, [.int 0, .ref e0, .int 0]))] H := hP
    have hD : va_D A [(g0, .inr (16, [.ref mj, .ref mq, .ref mm, .ref ms, .ref mf, .ref ml, .int 0, .int 0, .int 1, .int 0, .int (-1), .int 0, .int 0, .int 0, .int 0, .int 0, .long 0])), (mj, .inr (4, [.int 0, .ref e0, .int 0]))] := hD
    refine W.widen (k := 0) (n := 0) (Nat.le_of_ble_eq_true rfl) (Nat.le_of_ble_eq_true rfl) ?_
    refine lv_iconst (v := 1) hx hb dX11_thrust_6 (by decide) ?_
    have hPc := hP.sub (ws' := [(g0, .inr (16, [.ref mj, .ref mq, .ref mm, .ref ms, .ref mf, .ref ml, .int 0, .int 0, .int 1, .int 0, .int (-1), .int 0, .int 0, .int 0, .int 0, .int 0, .long 0]))]) [0] rfl
    have hDc := hD.sub (ws' := [(g0, .inr (16, [.ref mj, .ref mq, .ref mm, .ref ms, .ref mf, .ref ml, .int 0, .int 0, .int 1, .int 0, .int (-1), .int 0, .int 0, .int 0, .int 0, .int 0, .long 0]))]) [0] (by decide) rfl
    have hKc := hK.sub (tys' := []) [] rfl
    have hFc := va_free (wc := [(g0, .inr (16, [.ref mj, .ref mq, .ref mm, .ref ms, .ref mf, .ref ml, .int 0, .int 0, .int 1, .int 0, .int (-1), .int 0, .int 0, .int 0, .int 0, .int 0, .long 0]))]) hD hS hA [0] rfl
    refine va_calli (va_runV (As := [.int 0, .int 1]) (rest := []) ⟨hx, hb, hml, hown, hts⟩ (c_X11_no0 l dC dI e0 g0 1 mj mq mm ms mf ml 0 H.size) (cwV 2 hts (goodIn_sub (fun _ h9 => List.mem_cons_of_mem _ (List.mem_append_right _ (List.mem_append_right _ (List.mem_append_right _ (List.mem_append_right _ h9))))) (by decide +kernel)) rfl rfl rfl (by decide +kernel) ⟨(Nat.le_of_ble_eq_true rfl), (Nat.le_of_ble_eq_true rfl)⟩) ⟨fz_blind, va_recv hKc hPc (ci := 16) (q0 := 0) rfl rfl, fz_pre hPc hKc hDc hAm hS hFc⟩ rfl rfl hl.1 rfl (lv_room (Nat.le_of_ble_eq_true rfl)) dX11_thrust_7 ⟨(Nat.le_of_ble_eq_true rfl), (Nat.le_of_ble_eq_true rfl)⟩) hS (fun q _ h => hFc q h) hFc (fun r u t H1 locs ht hvm hw hB hz1 hk1 hS => ?_)
    obtain rfl := hw
    obtain ⟨hP1, hK1, hD1⟩ := hB
    rw [ht] at hP1
    have hK1 := va_K.moved hvm.symm hK1
    obtain ⟨hP, hD⟩ := va_join (wr := [(mj, .inr (4, [.int 0, .ref e0, .int 0]))]) (w1 := [(g0, .inr (16, [.ref mj, .ref mq, .ref mm, .ref ms, .ref mf, .ref ml, .int 1, .int 0, .int 1, .int 0, .int (-1), .int 0, .int 0, .int 0, .int 0, .int 0, .long 0]))]) hP hD [0] [1] rfl rfl (by decide) (by decide) hk1 hFc hP1 hD1
    generalize H1 = H at hP hS ⊢
    have hP : va_P (dC, dI) vwCl [(mj, .inr (4, [.int 0, .ref e0, .int 0])), (g0, .inr (16, [.ref mj, .ref mq, .ref mm, .ref ms, .ref mf, .ref ml, .int 1, .int 0, .int 1, .int 0, .int (-1), .int 0, .int 0, .int 0, .int 0, .int 0, .long 0]))] H := hP
    have hD : va_D A [(mj, .inr (4, [.int 0, .ref e0, .int 0])), (g0, .inr (16, [.ref mj, .ref mq, .ref mm, .ref ms, .ref mf, .ref ml, .int 1, .int 0, .int 1, .int 0, .int (-1), .int 0, .int 0, .int 0, .int 0, .int 0, .long 0]))] := hD
    have hK : va_K (dC, dI) vwCl [] s := hK
    refine W.widen (k := 0) (n := 0) (Nat.le_of_ble_eq_true rfl) (Nat.le_of_ble_eq_true rfl) ?_
    refine lv_if_ne (tgt := 34) hx hb dX11_thrust_10 (by decide) (fun _ => ?_) (fun c_9 => absurd c_9 (by decide))
    refine lv_lconst (v := (0 : Int32).toInt64) hx hb dX11_thrust_34 (by decide) ?_
    have hP9 := hP.sub (ws' := [(g0, .inr (16, [.ref mj, .ref mq, .ref mm, .ref ms, .ref mf, .ref ml, .int 1, .int 0, .int 1, .int 0, .int (-1), .int 0, .int 0, .int 0, .int 0, .int 0, .long 0]))]) [1] rfl
    have hD9 := hD.sub (ws' := [(g0, .inr (16, [.ref mj, .ref mq, .ref mm, .ref ms, .ref mf, .ref ml, .int 1, .int 0, .int 1, .int 0, .int (-1), .int 0, .int 0, .int 0, .int 0, .int 0, .long 0]))]) [1] (by decide) rfl
    have hK9 := hK.sub (tys' := []) [] rfl
    refine W.widen (k := 0) (n := 0) (Nat.le_of_ble_eq_true rfl) (Nat.le_of_ble_eq_true rfl) ?_
    exact W.lret (v := ((0 : Int32).toInt64)) hx hb hr (fun t ht hW => ⟨⟨((0 : Int32).toInt64), 1, rfl, Or.inr (⟨rfl, rfl, hp_2⟩), ⟨by rw [ht]; exact hP9, va_K.moved hW.alike hK9, hD9⟩⟩, hS.F ht⟩) hS.2.2 dX11_thrust_35
def v_c_X11_bears : List Cond := .code yX11_bears cX11_bears 6 (some .int) :: ([] ++ (wsV RX11 116 RX11 yX11_noPlace v_c_X11_noPlace))
set_option maxRecDepth 20000 in
theorem i_c_X11_bears : ∀ w ∈ v_c_X11_bears, w ∈ lw_tbl := List.forall_mem_cons.mpr ⟨List.mem_of_getElem? (i := 1664) (by decide +kernel), List.forall_mem_append.mpr ⟨fun _ h => absurd h List.not_mem_nil, (by unfold wsV; exact List.forall_mem_append.mpr ⟨List.forall_mem_cons.mpr ⟨List.mem_of_getElem? (i := 1533) (by decide +kernel), List.forall_mem_cons.mpr ⟨List.mem_of_getElem? (i := 1535) (by decide +kernel), List.forall_mem_cons.mpr ⟨List.mem_of_getElem? (i := 31) (by decide +kernel), List.forall_mem_cons.mpr ⟨List.mem_of_getElem? (i := 54) (by decide +kernel), fun _ h => absurd h List.not_mem_nil⟩⟩⟩⟩, i_c_X11_noPlace⟩)⟩⟩
set_option maxHeartbeats 4000000 in
set_option maxRecDepth 100000 in
theorem c_X11_bears (l : Launch) (dC : Nat → ClassId) (dI : Nat → Nat → Nat) (e0 : Nat) (g0 : Nat) (p0 p1 : Int32) (mj mq mm ms mf ml : Nat) (sz : Nat) : Met l yX11_bears v_c_X11_bears ({ frames := 4, cells := 0, slots := 0, locals := 92 }) (fz_P (dC, dI) e0 [(g0, .inr (16, [.ref mj, .ref mq, .ref mm, .ref ms, .ref mf, .ref ml, .int 0, .int 0, .int 1, .int 0, .int (-1), .int 0, .int 0, .int 0, .int 0, .int 0, .long 0])), (mj, .inr (4, [.int 0, .ref e0, .int 0]))] [] sz (va_A [(g0, .inr (16, [.ref mj, .ref mq, .ref mm, .ref ms, .ref mf, .ref ml, .int 0, .int 0, .int 1, .int 0, .int (-1), .int 0, .int 0, .int 0, .int 0, .int 0, .long 0])), (mj, .inr (4, [.int 0, .ref e0, .int 0]))] sz) [.ref g0, .int p0, .int p1]) (va_Qi (fun (r : Int32) (u : Unit) => r = 0) (fun (u : Unit) (t : State) => va_P (dC, dI) vwCl [(g0, .inr (16, [.ref mj, .ref mq, .ref mm, .ref ms, .ref mf, .ref ml, .int 1, .int 0, .int 1, .int 0, .int (-1), .int 0, .int 0, .int 0, .int 0, .int 0, .long 0]))] t.heap ∧ va_K (dC, dI) vwCl [] t ∧ va_D (va_A [(g0, .inr (16, [.ref mj, .ref mq, .ref mm, .ref ms, .ref mf, .ref ml, .int 0, .int 0, .int 1, .int 0, .int (-1), .int 0, .int 0, .int 0, .int 0, .int 0, .long 0])), (mj, .inr (4, [.int 0, .ref e0, .int 0]))] sz) [(g0, .inr (16, [.ref mj, .ref mq, .ref mm, .ref ms, .ref mf, .ref ml, .int 1, .int 0, .int 1, .int 0, .int (-1), .int 0, .int 0, .int 0, .int 0, .int 0, .long 0]))]) (va_A [(g0, .inr (16, [.ref mj, .ref mq, .ref mm, .ref ms, .ref mf, .ref ml, .int 0, .int 0, .int 1, .int 0, .int (-1), .int 0, .int 0, .int 0, .int 0, .int 0, .long 0])), (mj, .inr (4, [.int 0, .ref e0, .int 0]))] sz)) 0 0 (va_A [(g0, .inr (16, [.ref mj, .ref mq, .ref mm, .ref ms, .ref mf, .ref ml, .int 0, .int 0, .int 1, .int 0, .int (-1), .int 0, .int 0, .int 0, .int 0, .int 0, .long 0])), (mj, .inr (4, [.int 0, .ref e0, .int 0]))] sz) := by
  refine Met.ofW (cc := cX11_bears) (maxL := 6) (ret := (some .int)) (by decide) rfl ?_
  intro p e s m args below meth c s₁ B hml hv
  obtain ⟨rfl, hsz, hP, hK, hD0, hAm⟩ := hv
  have hx := B.exec
  have hb := B.bytes
  have hr := B.returns
  have hts := atoms_spec (ws := v_c_X11_bears) B.pre
  have hown : s.vm.findClass RX11 = some m.cls := findClass_of_methodNamed B.named
  have hlocks := B.notSynchronized
  subst hsz
  have hD := hD0.self (sz := s.heap.size)
  generalize hAe : va_A [(g0, .inr (16, [.ref mj, .ref mq, .ref mm, .ref ms, .ref mf, .ref ml, .int 0, .int 0, .int 1, .int 0, .int (-1), .int 0, .int 0, .int 0, .int 0, .int 0, .long 0])), (mj, .inr (4, [.int 0, .ref e0, .int 0]))] s.heap.size = A at hD hAm ⊢
  have hA : ∀ q : Nat, s.heap.size ≤ q → A q := fun q h => by rw [← hAe]; exact Or.inr h
  have hS : va_S A s.heap s.heap [] := va_S.rf
  have hP : va_P (dC, dI) vwCl [(g0, .inr (16, [.ref mj, .ref mq, .ref mm, .ref ms, .ref mf, .ref ml, .int 0, .int 0, .int 1, .int 0, .int (-1), .int 0, .int 0, .int 0, .int 0, .int 0, .long 0])), (mj, .inr (4, [.int 0, .ref e0, .int 0]))] s.heap := hP
  have hl := lv_entry ([.ref g0, .int p0, .int p1]) (n := 6) (Nat.le_of_ble_eq_true rfl)
  rw [lg_entry_eq]
  generalize (lg_sl ([.ref g0, .int p0, .int p1]) ++ List.replicate (6 - (lg_sl ([.ref g0, .int p0, .int p1])).length) Slot.unset).toArray = ls at hl ⊢
  have hl : lv_has ls 6 [(0, .ref g0), (1, .int p0), (2, .int p1)] := hl
  refine lv_aload_n hx hb dX11_bears_0 rfl (lv_at hl 0 rfl) ?_
  refine lv_iload_n hx hb dX11_bears_1 rfl (lv_at hl 1 rfl) ?_
  have hPc := hP.sub (ws' := [(g0, .inr (16, [.ref mj, .ref mq, .ref mm, .ref ms, .ref mf, .ref ml, .int 0, .int 0, .int 1, .int 0, .int (-1), .int 0, .int 0, .int 0, .int 0, .int 0, .long 0])), (mj, .inr (4, [.int 0, .ref e0, .int 0]))]) [0, 1] rfl
  have hDc := hD.sub (ws' := [(g0, .inr (16, [.ref mj, .ref mq, .ref mm, .ref ms, .ref mf, .ref ml, .int 0, .int 0, .int 1, .int 0, .int (-1), .int 0, .int 0, .int 0, .int 0, .int 0, .long 0])), (mj, .inr (4, [.int 0, .ref e0, .int 0]))]) [0, 1] (by decide) rfl
  have hKc := hK.sub (tys' := []) [] rfl
  have hFc := va_free (wc := [(g0, .inr (16, [.ref mj, .ref mq, .ref mm, .ref ms, .ref mf, .ref ml, .int 0, .int 0, .int 1, .int 0, .int (-1), .int 0, .int 0, .int 0, .int 0, .int 0, .long 0])), (mj, .inr (4, [.int 0, .ref e0, .int 0]))]) hD hS hA [0, 1] rfl
  refine va_calli (va_runV (As := [.int p0]) (rest := []) ⟨hx, hb, hml, hown, hts⟩ (c_X11_noPlace l dC dI e0 g0 p0 mj mq mm ms mf ml 0 s.heap.size) (cwV 1 hts (goodIn_sub (fun _ h9 => List.mem_cons_of_mem _ (List.mem_append_right _ (h9))) (by decide +kernel)) rfl rfl rfl (by decide +kernel) ⟨(Nat.le_of_ble_eq_true rfl), (Nat.le_of_ble_eq_true rfl)⟩) ⟨fz_blind, va_recv hKc hPc (ci := 16) (q0 := 0) rfl rfl, fz_pre hPc hKc hDc hAm hS hFc⟩ rfl rfl hl.1 rfl (lv_room (Nat.le_of_ble_eq_true rfl)) dX11_bears_2 ⟨(Nat.le_of_ble_eq_true rfl), (Nat.le_of_ble_eq_true rfl)⟩) hS (fun q _ h => hFc q h) hFc (fun r u t H1 locs ht hvm hw hB hz1 hk1 hS => ?_)
  obtain rfl := hw
  obtain ⟨hP1, hK1, hD1⟩ := hB
  rw [ht] at hP1
  have hK1 := va_K.moved hvm.symm hK1
  obtain ⟨hP, hD⟩ := va_join (wr := []) (w1 := [(g0, .inr (16, [.ref mj, .ref mq, .ref mm, .ref ms, .ref mf, .ref ml, .int 1, .int 0, .int 1, .int 0, .int (-1), .int 0, .int 0, .int 0, .int 0, .int 0, .long 0]))]) hP hD [0, 1] [] rfl rfl (by decide) (by decide) hk1 hFc hP1 hD1
  generalize H1 = H at hP hS ⊢
  have hP : va_P (dC, dI) vwCl [(g0, .inr (16, [.ref mj, .ref mq, .ref mm, .ref ms, .ref mf, .ref ml, .int 1, .int 0, .int 1, .int 0, .int (-1), .int 0, .int 0, .int 0, .int 0, .int 0, .long 0]))] H := hP
  have hD : va_D A [(g0, .inr (16, [.ref mj, .ref mq, .ref mm, .ref ms, .ref mf, .ref ml, .int 1, .int 0, .int 1, .int 0, .int (-1), .int 0, .int 0, .int 0, .int 0, .int 0, .long 0]))] := hD
  have hK : va_K (dC, dI) vwCl [] s := hK
  refine W.widen (k := 0) (n := 0) (Nat.le_of_ble_eq_true rfl) (Nat.le_of_ble_eq_true rfl) ?_
  refine lv_if_ne (tgt := 52) hx hb dX11_bears_5 (by decide) (fun _ => ?_) (fun c_9 => absurd c_9 (by decide))
  refine lv_iconst (v := 0) hx hb dX11_bears_52 (by decide) ?_
  have hP9 := hP.sub (ws' := [(g0, .inr (16, [.ref mj, .ref mq, .ref mm, .ref ms, .ref mf, .ref ml, .int 1, .int 0, .int 1, .int 0, .int (-1), .int 0, .int 0, .int 0, .int 0, .int 0, .long 0]))]) [0] rfl
  have hD9 := hD.sub (ws' := [(g0, .inr (16, [.ref mj, .ref mq, .ref mm, .ref ms, .ref mf, .ref ml, .int 1, .int 0, .int 1, .int 0, .int (-1), .int 0, .int 0, .int 0, .int 0, .int 0, .long 0]))]) [0] (by decide) rfl
  have hK9 := hK.sub (tys' := []) [] rfl
  refine W.widen (k := 0) (n := 0) (Nat.le_of_ble_eq_true rfl) (Nat.le_of_ble_eq_true rfl) ?_
  exact W.iret (v := 0) hx hb hr (fun t ht hW => ⟨⟨0, (), rfl, rfl, ⟨by rw [ht]; exact hP9, va_K.moved hW.alike hK9, hD9⟩⟩, hS.F ht⟩) hS.2.2 dX11_bears_53
def v_c_X11_load : List Cond := .code yX11_load cX11_load 4 (some .boolean) :: ([] ++ (wsV RX11 116 RX11 yX11_noPlace v_c_X11_noPlace))
set_option maxRecDepth 20000 in
theorem i_c_X11_load : ∀ w ∈ v_c_X11_load, w ∈ lw_tbl := List.forall_mem_cons.mpr ⟨List.mem_of_getElem? (i := 1851) (by decide +kernel), List.forall_mem_append.mpr ⟨fun _ h => absurd h List.not_mem_nil, (by unfold wsV; exact List.forall_mem_append.mpr ⟨List.forall_mem_cons.mpr ⟨List.mem_of_getElem? (i := 1533) (by decide +kernel), List.forall_mem_cons.mpr ⟨List.mem_of_getElem? (i := 1535) (by decide +kernel), List.forall_mem_cons.mpr ⟨List.mem_of_getElem? (i := 31) (by decide +kernel), List.forall_mem_cons.mpr ⟨List.mem_of_getElem? (i := 54) (by decide +kernel), fun _ h => absurd h List.not_mem_nil⟩⟩⟩⟩, i_c_X11_noPlace⟩)⟩⟩
set_option maxHeartbeats 4000000 in
set_option maxRecDepth 100000 in
theorem c_X11_load (l : Launch) (dC : Nat → ClassId) (dI : Nat → Nat → Nat) (e0 : Nat) (g0 : Nat) (p0 p1 : Int32) (mj mq mm ms mf ml : Nat) (sz : Nat) : Met l yX11_load v_c_X11_load ({ frames := 4, cells := 0, slots := 0, locals := 92 }) (fz_P (dC, dI) e0 [(g0, .inr (16, [.ref mj, .ref mq, .ref mm, .ref ms, .ref mf, .ref ml, .int 0, .int 0, .int 1, .int 0, .int (-1), .int 0, .int 0, .int 0, .int 0, .int 0, .long 0])), (mj, .inr (4, [.int 0, .ref e0, .int 0]))] [] sz (va_A [(g0, .inr (16, [.ref mj, .ref mq, .ref mm, .ref ms, .ref mf, .ref ml, .int 0, .int 0, .int 1, .int 0, .int (-1), .int 0, .int 0, .int 0, .int 0, .int 0, .long 0])), (mj, .inr (4, [.int 0, .ref e0, .int 0]))] sz) [.ref g0, .int p0, .int p1]) (va_Qi (fun (r : Int32) (u : Unit) => r = 0) (fun (u : Unit) (t : State) => va_P (dC, dI) vwCl [(g0, .inr (16, [.ref mj, .ref mq, .ref mm, .ref ms, .ref mf, .ref ml, .int 1, .int 0, .int 1, .int 0, .int (-1), .int 0, .int 0, .int 0, .int 0, .int 0, .long 0]))] t.heap ∧ va_K (dC, dI) vwCl [] t ∧ va_D (va_A [(g0, .inr (16, [.ref mj, .ref mq, .ref mm, .ref ms, .ref mf, .ref ml, .int 0, .int 0, .int 1, .int 0, .int (-1), .int 0, .int 0, .int 0, .int 0, .int 0, .long 0])), (mj, .inr (4, [.int 0, .ref e0, .int 0]))] sz) [(g0, .inr (16, [.ref mj, .ref mq, .ref mm, .ref ms, .ref mf, .ref ml, .int 1, .int 0, .int 1, .int 0, .int (-1), .int 0, .int 0, .int 0, .int 0, .int 0, .long 0]))]) (va_A [(g0, .inr (16, [.ref mj, .ref mq, .ref mm, .ref ms, .ref mf, .ref ml, .int 0, .int 0, .int 1, .int 0, .int (-1), .int 0, .int 0, .int 0, .int 0, .int 0, .long 0])), (mj, .inr (4, [.int 0, .ref e0, .int 0]))] sz)) 0 0 (va_A [(g0, .inr (16, [.ref mj, .ref mq, .ref mm, .ref ms, .ref mf, .ref ml, .int 0, .int 0, .int 1, .int 0, .int (-1), .int 0, .int 0, .int 0, .int 0, .int 0, .long 0])), (mj, .inr (4, [.int 0, .ref e0, .int 0]))] sz) := by
  refine Met.ofW (cc := cX11_load) (maxL := 4) (ret := (some .boolean)) (by decide) rfl ?_
  intro p e s m args below meth c s₁ B hml hv
  obtain ⟨rfl, hsz, hP, hK, hD0, hAm⟩ := hv
  have hx := B.exec
  have hb := B.bytes
  have hr := B.returns
  have hts := atoms_spec (ws := v_c_X11_load) B.pre
  have hown : s.vm.findClass RX11 = some m.cls := findClass_of_methodNamed B.named
  have hlocks := B.notSynchronized
  subst hsz
  have hD := hD0.self (sz := s.heap.size)
  generalize hAe : va_A [(g0, .inr (16, [.ref mj, .ref mq, .ref mm, .ref ms, .ref mf, .ref ml, .int 0, .int 0, .int 1, .int 0, .int (-1), .int 0, .int 0, .int 0, .int 0, .int 0, .long 0])), (mj, .inr (4, [.int 0, .ref e0, .int 0]))] s.heap.size = A at hD hAm ⊢
  have hA : ∀ q : Nat, s.heap.size ≤ q → A q := fun q h => by rw [← hAe]; exact Or.inr h
  have hS : va_S A s.heap s.heap [] := va_S.rf
  have hP : va_P (dC, dI) vwCl [(g0, .inr (16, [.ref mj, .ref mq, .ref mm, .ref ms, .ref mf, .ref ml, .int 0, .int 0, .int 1, .int 0, .int (-1), .int 0, .int 0, .int 0, .int 0, .int 0, .long 0])), (mj, .inr (4, [.int 0, .ref e0, .int 0]))] s.heap := hP
  have hl := lv_entry ([.ref g0, .int p0, .int p1]) (n := 4) (Nat.le_of_ble_eq_true rfl)
  rw [lg_entry_eq]
  generalize (lg_sl ([.ref g0, .int p0, .int p1]) ++ List.replicate (4 - (lg_sl ([.ref g0, .int p0, .int p1])).length) Slot.unset).toArray = ls at hl ⊢
  have hl : lv_has ls 4 [(0, .ref g0), (1, .int p0), (2, .int p1)] := hl
  refine lv_aload_n hx hb dX11_load_0 rfl (lv_at hl 0 rfl) ?_
  refine lv_iload_n hx hb dX11_load_1 rfl (lv_at hl 1 rfl) ?_
  have hPc := hP.sub (ws' := [(g0, .inr (16, [.ref mj, .ref mq, .ref mm, .ref ms, .ref mf, .ref ml, .int 0, .int 0, .int 1, .int 0, .int (-1), .int 0, .int 0, .int 0, .int 0, .int 0, .long 0])), (mj, .inr (4, [.int 0, .ref e0, .int 0]))]) [0, 1] rfl
  have hDc := hD.sub (ws' := [(g0, .inr (16, [.ref mj, .ref mq, .ref mm, .ref ms, .ref mf, .ref ml, .int 0, .int 0, .int 1, .int 0, .int (-1), .int 0, .int 0, .int 0, .int 0, .int 0, .long 0])), (mj, .inr (4, [.int 0, .ref e0, .int 0]))]) [0, 1] (by decide) rfl
  have hKc := hK.sub (tys' := []) [] rfl
  have hFc := va_free (wc := [(g0, .inr (16, [.ref mj, .ref mq, .ref mm, .ref ms, .ref mf, .ref ml, .int 0, .int 0, .int 1, .int 0, .int (-1), .int 0, .int 0, .int 0, .int 0, .int 0, .long 0])), (mj, .inr (4, [.int 0, .ref e0, .int 0]))]) hD hS hA [0, 1] rfl
  refine va_calli (va_runV (As := [.int p0]) (rest := []) ⟨hx, hb, hml, hown, hts⟩ (c_X11_noPlace l dC dI e0 g0 p0 mj mq mm ms mf ml 0 s.heap.size) (cwV 1 hts (goodIn_sub (fun _ h9 => List.mem_cons_of_mem _ (List.mem_append_right _ (h9))) (by decide +kernel)) rfl rfl rfl (by decide +kernel) ⟨(Nat.le_of_ble_eq_true rfl), (Nat.le_of_ble_eq_true rfl)⟩) ⟨fz_blind, va_recv hKc hPc (ci := 16) (q0 := 0) rfl rfl, fz_pre hPc hKc hDc hAm hS hFc⟩ rfl rfl hl.1 rfl (lv_room (Nat.le_of_ble_eq_true rfl)) dX11_load_2 ⟨(Nat.le_of_ble_eq_true rfl), (Nat.le_of_ble_eq_true rfl)⟩) hS (fun q _ h => hFc q h) hFc (fun r u t H1 locs ht hvm hw hB hz1 hk1 hS => ?_)
  obtain rfl := hw
  obtain ⟨hP1, hK1, hD1⟩ := hB
  rw [ht] at hP1
  have hK1 := va_K.moved hvm.symm hK1
  obtain ⟨hP, hD⟩ := va_join (wr := []) (w1 := [(g0, .inr (16, [.ref mj, .ref mq, .ref mm, .ref ms, .ref mf, .ref ml, .int 1, .int 0, .int 1, .int 0, .int (-1), .int 0, .int 0, .int 0, .int 0, .int 0, .long 0]))]) hP hD [0, 1] [] rfl rfl (by decide) (by decide) hk1 hFc hP1 hD1
  generalize H1 = H at hP hS ⊢
  have hP : va_P (dC, dI) vwCl [(g0, .inr (16, [.ref mj, .ref mq, .ref mm, .ref ms, .ref mf, .ref ml, .int 1, .int 0, .int 1, .int 0, .int (-1), .int 0, .int 0, .int 0, .int 0, .int 0, .long 0]))] H := hP
  have hD : va_D A [(g0, .inr (16, [.ref mj, .ref mq, .ref mm, .ref ms, .ref mf, .ref ml, .int 1, .int 0, .int 1, .int 0, .int (-1), .int 0, .int 0, .int 0, .int 0, .int 0, .long 0]))] := hD
  have hK : va_K (dC, dI) vwCl [] s := hK
  refine W.widen (k := 0) (n := 0) (Nat.le_of_ble_eq_true rfl) (Nat.le_of_ble_eq_true rfl) ?_
  refine lv_if_ne (tgt := 37) hx hb dX11_load_5 (by decide) (fun _ => ?_) (fun c_9 => absurd c_9 (by decide))
  refine lv_iconst (v := 0) hx hb dX11_load_37 (by decide) ?_
  have hP9 := hP.sub (ws' := [(g0, .inr (16, [.ref mj, .ref mq, .ref mm, .ref ms, .ref mf, .ref ml, .int 1, .int 0, .int 1, .int 0, .int (-1), .int 0, .int 0, .int 0, .int 0, .int 0, .long 0]))]) [0] rfl
  have hD9 := hD.sub (ws' := [(g0, .inr (16, [.ref mj, .ref mq, .ref mm, .ref ms, .ref mf, .ref ml, .int 1, .int 0, .int 1, .int 0, .int (-1), .int 0, .int 0, .int 0, .int 0, .int 0, .long 0]))]) [0] (by decide) rfl
  have hK9 := hK.sub (tys' := []) [] rfl
  refine W.widen (k := 0) (n := 0) (Nat.le_of_ble_eq_true rfl) (Nat.le_of_ble_eq_true rfl) ?_
  exact W.zret (v := 0) hx hb hr rfl (fun t ht hW => ⟨⟨0, (), rfl, rfl, ⟨by rw [ht]; exact hP9, va_K.moved hW.alike hK9, hD9⟩⟩, hS.F ht⟩) hS.2.2 dX11_load_38
def v_c_X11_gripOf : List Cond := .code yX11_gripOf cX11_gripOf 3 (some .int) :: ([] ++ (wsV RX11 54 RX11 yX11_many v_c_X11_many))
set_option maxRecDepth 20000 in
theorem i_c_X11_gripOf : ∀ w ∈ v_c_X11_gripOf, w ∈ lw_tbl := List.forall_mem_cons.mpr ⟨List.mem_of_getElem? (i := 1676) (by decide +kernel), List.forall_mem_append.mpr ⟨fun _ h => absurd h List.not_mem_nil, (by unfold wsV; exact List.forall_mem_append.mpr ⟨List.forall_mem_cons.mpr ⟨List.mem_of_getElem? (i := 1524) (by decide +kernel), List.forall_mem_cons.mpr ⟨List.mem_of_getElem? (i := 1526) (by decide +kernel), List.forall_mem_cons.mpr ⟨List.mem_of_getElem? (i := 30) (by decide +kernel), List.forall_mem_cons.mpr ⟨List.mem_of_getElem? (i := 54) (by decide +kernel), fun _ h => absurd h List.not_mem_nil⟩⟩⟩⟩, i_c_X11_many⟩)⟩⟩
set_option maxHeartbeats 4000000 in
set_option maxRecDepth 100000 in
theorem c_X11_gripOf (l : Launch) (dC : Nat → ClassId) (dI : Nat → Nat → Nat) (e0 : Nat) (g0 mj mq mm ms mf ml : Nat) (sz : Nat) : Met l yX11_gripOf v_c_X11_gripOf ({ frames := 2, cells := 0, slots := 0, locals := 50 }) (fz_P (dC, dI) e0 [(g0, .inr (16, [.ref mj, .ref mq, .ref mm, .ref ms, .ref mf, .ref ml, .int 0, .int 0, .int 1, .int 0, .int (-1), .int 0, .int 0, .int 0, .int 0, .int 0, .long 0])), (mj, .inr (4, [.int 0, .ref e0, .int 0]))] [] sz (fun q : Nat => sz ≤ q) [.ref g0]) (va_Qi (fun (r : Int32) (u : Unit) => r = 3) (fun (u : Unit) (t : State) => True) (fun q : Nat => sz ≤ q)) 0 0 (fun q : Nat => sz ≤ q) := by
  refine Met.ofW (cc := cX11_gripOf) (maxL := 3) (ret := (some .int)) (by decide) rfl ?_
  intro p e s m args below meth c s₁ B hml hv
  obtain ⟨rfl, hsz, hP, hK, hD0, hAm⟩ := hv
  have hx := B.exec
  have hb := B.bytes
  have hr := B.returns
  have hts := atoms_spec (ws := v_c_X11_gripOf) B.pre
  have hown : s.vm.findClass RX11 = some m.cls := findClass_of_methodNamed B.named
  have hlocks := B.notSynchronized
  subst hsz
  have hD := hD0
  generalize hAe : (fun q : Nat => s.heap.size ≤ q) = A at hAm ⊢
  have hA : ∀ q : Nat, s.heap.size ≤ q → A q := fun q h => by rw [← hAe]; exact h
  have hS : va_S A s.heap s.heap [] := va_S.rf
  have hP : va_P (dC, dI) vwCl [(g0, .inr (16, [.ref mj, .ref mq, .ref mm, .ref ms, .ref mf, .ref ml, .int 0, .int 0, .int 1, .int 0, .int (-1), .int 0, .int 0, .int 0, .int 0, .int 0, .long 0])), (mj, .inr (4, [.int 0, .ref e0, .int 0]))] s.heap := hP
  have hl := lv_entry ([.ref g0]) (n := 3) (Nat.le_of_ble_eq_true rfl)
  rw [lg_entry_eq]
  generalize (lg_sl ([.ref g0]) ++ List.replicate (3 - (lg_sl ([.ref g0])).length) Slot.unset).toArray = ls at hl ⊢
  have hl : lv_has ls 3 [(0, .ref g0)] := hl
  refine lv_aload_n hx hb dX11_gripOf_0 rfl (lv_at hl 0 rfl) ?_
  have hPc := hP.sub (ws' := [(g0, .inr (16, [.ref mj, .ref mq, .ref mm, .ref ms, .ref mf, .ref ml, .int 0, .int 0, .int 1, .int 0, .int (-1), .int 0, .int 0, .int 0, .int 0, .int 0, .long 0])), (mj, .inr (4, [.int 0, .ref e0, .int 0]))]) [0, 1] rfl
  have hDc := hD.sub (ws' := [(g0, .inr (16, [.ref mj, .ref mq, .ref mm, .ref ms, .ref mf, .ref ml, .int 0, .int 0, .int 1, .int 0, .int (-1), .int 0, .int 0, .int 0, .int 0, .int 0, .long 0])), (mj, .inr (4, [.int 0, .ref e0, .int 0]))]) [0, 1] (by decide) rfl
  have hKc := hK.sub (tys' := []) [] rfl
  have hFc : ∀ q : Nat, s.heap.size ≤ q → A q := fun q h => hA q (Nat.le_trans hS.1 h)
  refine va_calli (va_runV (As := []) (rest := []) ⟨hx, hb, hml, hown, hts⟩ (c_X11_many l dC dI e0 g0 mj mq mm ms mf ml 0 (-1) s.heap.size) (cwV 0 hts (goodIn_sub (fun _ h9 => List.mem_cons_of_mem _ (List.mem_append_right _ (h9))) (by decide +kernel)) rfl rfl rfl (by decide +kernel) ⟨(Nat.le_of_ble_eq_true rfl), (Nat.le_of_ble_eq_true rfl)⟩) ⟨fz_blind, va_recv hKc hPc (ci := 16) (q0 := 0) rfl rfl, fz_pre hPc hKc hDc hAm hS hFc⟩ rfl rfl hl.1 rfl (lv_room (Nat.le_of_ble_eq_true rfl)) dX11_gripOf_1 ⟨(Nat.le_of_ble_eq_true rfl), (Nat.le_of_ble_eq_true rfl)⟩) hS (fun q _ h => hFc q h) hFc (fun r u t H1 locs ht hvm hw hB hz1 hk1 hS => ?_)
  obtain rfl := hw
  have hP := fz_keep hP hk1
  generalize H1 = H at hP hS ⊢
  have hP : va_P (dC, dI) vwCl [(g0, .inr (16, [.ref mj, .ref mq, .ref mm, .ref ms, .ref mf, .ref ml, .int 0, .int 0, .int 1, .int 0, .int (-1), .int 0, .int 0, .int 0, .int 0, .int 0, .long 0])), (mj, .inr (4, [.int 0, .ref e0, .int 0]))] H := hP
  refine W.widen (k := 0) (n := 0) (Nat.le_of_ble_eq_true rfl) (Nat.le_of_ble_eq_true rfl) ?_
  refine lv_if_eq (tgt := 18) hx hb dX11_gripOf_4 (by decide) (fun _ => ?_) (fun c_9 => absurd (by decide) c_9)
  refine lv_iconst (v := 3) hx hb dX11_gripOf_18 (by decide) ?_
  refine W.widen (k := 0) (n := 0) (Nat.le_of_ble_eq_true rfl) (Nat.le_of_ble_eq_true rfl) ?_
  exact W.iret (v := 3) hx hb hr (fun t ht hW => ⟨⟨3, (), rfl, rfl, trivial⟩, hS.F ht⟩) hS.2.2 dX11_gripOf_19
def v_c_X11_grip : List Cond := .code yX11_grip cX11_grip 1 (some .int) :: ([] ++ (wsV RX11 191 RX11 yX11_gripOf v_c_X11_gripOf))
set_option maxRecDepth 20000 in
theorem i_c_X11_grip : ∀ w ∈ v_c_X11_grip, w ∈ lw_tbl := List.forall_mem_cons.mpr ⟨List.mem_of_getElem? (i := 1672) (by decide +kernel), List.forall_mem_append.mpr ⟨fun _ h => absurd h List.not_mem_nil, (by unfold wsV; exact List.forall_mem_append.mpr ⟨List.forall_mem_cons.mpr ⟨List.mem_of_getElem? (i := 1673) (by decide +kernel), List.forall_mem_cons.mpr ⟨List.mem_of_getElem? (i := 1675) (by decide +kernel), List.forall_mem_cons.mpr ⟨List.mem_of_getElem? (i := 41) (by decide +kernel), List.forall_mem_cons.mpr ⟨List.mem_of_getElem? (i := 54) (by decide +kernel), fun _ h => absurd h List.not_mem_nil⟩⟩⟩⟩, i_c_X11_gripOf⟩)⟩⟩
set_option maxHeartbeats 4000000 in
set_option maxRecDepth 100000 in
theorem c_X11_grip (l : Launch) (dC : Nat → ClassId) (dI : Nat → Nat → Nat) (e0 : Nat) (g0 mj mq mm ms mf ml : Nat) (sz : Nat) : Met l yX11_grip v_c_X11_grip ({ frames := 3, cells := 0, slots := 0, locals := 72 }) (fz_P (dC, dI) e0 [(g0, .inr (16, [.ref mj, .ref mq, .ref mm, .ref ms, .ref mf, .ref ml, .int 0, .int 0, .int 1, .int 0, .int (-1), .int 0, .int 0, .int 0, .int 0, .int 0, .long 0])), (mj, .inr (4, [.int 0, .ref e0, .int 0]))] [] sz (fun q : Nat => sz ≤ q) [.ref g0]) (va_Qi (fun (r : Int32) (u : Unit) => r = 3) (fun (u : Unit) (t : State) => True) (fun q : Nat => sz ≤ q)) 0 0 (fun q : Nat => sz ≤ q) := by
  refine Met.ofW (cc := cX11_grip) (maxL := 1) (ret := (some .int)) (by decide) rfl ?_
  intro p e s m args below meth c s₁ B hml hv
  obtain ⟨rfl, hsz, hP, hK, hD0, hAm⟩ := hv
  have hx := B.exec
  have hb := B.bytes
  have hr := B.returns
  have hts := atoms_spec (ws := v_c_X11_grip) B.pre
  have hown : s.vm.findClass RX11 = some m.cls := findClass_of_methodNamed B.named
  have hlocks := B.notSynchronized
  subst hsz
  have hD := hD0
  generalize hAe : (fun q : Nat => s.heap.size ≤ q) = A at hAm ⊢
  have hA : ∀ q : Nat, s.heap.size ≤ q → A q := fun q h => by rw [← hAe]; exact h
  have hS : va_S A s.heap s.heap [] := va_S.rf
  have hP : va_P (dC, dI) vwCl [(g0, .inr (16, [.ref mj, .ref mq, .ref mm, .ref ms, .ref mf, .ref ml, .int 0, .int 0, .int 1, .int 0, .int (-1), .int 0, .int 0, .int 0, .int 0, .int 0, .long 0])), (mj, .inr (4, [.int 0, .ref e0, .int 0]))] s.heap := hP
  have hl := lv_entry ([.ref g0]) (n := 1) (Nat.le_of_ble_eq_true rfl)
  rw [lg_entry_eq]
  generalize (lg_sl ([.ref g0]) ++ List.replicate (1 - (lg_sl ([.ref g0])).length) Slot.unset).toArray = ls at hl ⊢
  have hl : lv_has ls 1 [(0, .ref g0)] := hl
  refine lv_aload_n hx hb dX11_grip_0 rfl (lv_at hl 0 rfl) ?_
  have hPc := hP.sub (ws' := [(g0, .inr (16, [.ref mj, .ref mq, .ref mm, .ref ms, .ref mf, .ref ml, .int 0, .int 0, .int 1, .int 0, .int (-1), .int 0, .int 0, .int 0, .int 0, .int 0, .long 0])), (mj, .inr (4, [.int 0, .ref e0, .int 0]))]) [0, 1] rfl
  have hDc := hD.sub (ws' := [(g0, .inr (16, [.ref mj, .ref mq, .ref mm, .ref ms, .ref mf, .ref ml, .int 0, .int 0, .int 1, .int 0, .int (-1), .int 0, .int 0, .int 0, .int 0, .int 0, .long 0])), (mj, .inr (4, [.int 0, .ref e0, .int 0]))]) [0, 1] (by decide) rfl
  have hKc := hK.sub (tys' := []) [] rfl
  have hFc : ∀ q : Nat, s.heap.size ≤ q → A q := fun q h => hA q (Nat.le_trans hS.1 h)
  refine va_calli (va_runV (As := []) (rest := []) ⟨hx, hb, hml, hown, hts⟩ (c_X11_gripOf l dC dI e0 g0 mj mq mm ms mf ml s.heap.size) (cwV 0 hts (goodIn_sub (fun _ h9 => List.mem_cons_of_mem _ (List.mem_append_right _ (h9))) (by decide +kernel)) rfl rfl rfl (by decide +kernel) ⟨(Nat.le_of_ble_eq_true rfl), (Nat.le_of_ble_eq_true rfl)⟩) ⟨fz_blind, va_recv hKc hPc (ci := 16) (q0 := 0) rfl rfl, fz_pre hPc hKc hDc hAm hS hFc⟩ rfl rfl hl.1 rfl (lv_room (Nat.le_of_ble_eq_true rfl)) dX11_grip_1 ⟨(Nat.le_of_ble_eq_true rfl), (Nat.le_of_ble_eq_true rfl)⟩) hS (fun q _ h => hFc q h) hFc (fun r u t H1 locs ht hvm hw hB hz1 hk1 hS => ?_)
  obtain rfl := hw
  have hP := fz_keep hP hk1
  generalize H1 = H at hP hS ⊢
  have hP : va_P (dC, dI) vwCl [(g0, .inr (16, [.ref mj, .ref mq, .ref mm, .ref ms, .ref mf, .ref ml, .int 0, .int 0, .int 1, .int 0, .int (-1), .int 0, .int 0, .int 0, .int 0, .int 0, .long 0])), (mj, .inr (4, [.int 0, .ref e0, .int 0]))] H := hP
  refine W.widen (k := 0) (n := 0) (Nat.le_of_ble_eq_true rfl) (Nat.le_of_ble_eq_true rfl) ?_
  refine W.widen (k := 0) (n := 0) (Nat.le_of_ble_eq_true rfl) (Nat.le_of_ble_eq_true rfl) ?_
  exact W.iret (v := 3) hx hb hr (fun t ht hW => ⟨⟨3, (), rfl, rfl, trivial⟩, hS.F ht⟩) hS.2.2 dX11_grip_4
def v_c_X11_addBlocks : List Cond := .code yX11_addBlocks cX11_addBlocks 7 (some .int) :: ([.constantLong RX11 73 20, .constantLong RX11 194 99, .constantLong RX11 196 999, .fieldLink RX11 16 "VoussoirYardModel" "quarry" "Ljava/util/List;", .classLink RX11 198 RX8, .instantiable RX8 5, .initialized RX8, .methodLink RX11 200 yX8_init, .instanceMethod yX8_init] ++ (wsS RX11 57 yX11_isIn v_c_X11_isIn ++ (wsV RX11 65 RX11 yX11_no v_c_X11_no1 ++ (wsX110 ++ (va_wsF RX11 42 RJx4a65c ⟨"java/util/List", "size", "()I"⟩ yJx4a65c_size_8abf5 v_c_Jx4_size ++ (wsX80 ++ (v_c_X8_init ++ (va_wsF RX11 95 RJx4a65c ⟨"java/util/List", "add", "(Ljava/lang/Object;)Z"⟩ yJx4a65c_add_9ea2d v_c_Jx4_addB ++ (wsV RX11 65 RX11 yX11_no v_c_X11_no0)))))))))
set_option maxRecDepth 20000 in
theorem i_c_X11_addBlocks : ∀ w ∈ v_c_X11_addBlocks, w ∈ lw_tbl := List.forall_mem_cons.mpr ⟨List.mem_of_getElem? (i := 1684) (by decide +kernel), List.forall_mem_append.mpr ⟨List.forall_mem_cons.mpr ⟨List.mem_of_getElem? (i := 1387) (by decide +kernel), List.forall_mem_cons.mpr ⟨List.mem_of_getElem? (i := 1685) (by decide +kernel), List.forall_mem_cons.mpr ⟨List.mem_of_getElem? (i := 1686) (by decide +kernel), List.forall_mem_cons.mpr ⟨List.mem_of_getElem? (i := 1325) (by decide +kernel), List.forall_mem_cons.mpr ⟨List.mem_of_getElem? (i := 1687) (by decide +kernel), List.forall_mem_cons.mpr ⟨List.mem_of_getElem? (i := 1688) (by decide +kernel), List.forall_mem_cons.mpr ⟨List.mem_of_getElem? (i := 76) (by decide +kernel), List.forall_mem_cons.mpr ⟨List.mem_of_getElem? (i := 1689) (by decide +kernel), List.forall_mem_cons.mpr ⟨List.mem_of_getElem? (i := 1690) (by decide +kernel), fun _ h => absurd h List.not_mem_nil⟩⟩⟩⟩⟩⟩⟩⟩⟩, List.forall_mem_append.mpr ⟨(by unfold wsS; exact List.forall_mem_append.mpr ⟨List.forall_mem_cons.mpr ⟨List.mem_of_getElem? (i := 1388) (by decide +kernel), List.forall_mem_cons.mpr ⟨List.mem_of_getElem? (i := 1389) (by decide +kernel), List.forall_mem_cons.mpr ⟨List.mem_of_getElem? (i := 54) (by decide +kernel), fun _ h => absurd h List.not_mem_nil⟩⟩⟩, i_c_X11_isIn⟩), List.forall_mem_append.mpr ⟨(by unfold wsV; exact List.forall_mem_append.mpr ⟨List.forall_mem_cons.mpr ⟨List.mem_of_getElem? (i := 1434) (by decide +kernel), List.forall_mem_cons.mpr ⟨List.mem_of_getElem? (i := 1436) (by decide +kernel), List.forall_mem_cons.mpr ⟨List.mem_of_getElem? (i := 25) (by decide +kernel), List.forall_mem_cons.mpr ⟨List.mem_of_getElem? (i := 54) (by decide +kernel), fun _ h => absurd h List.not_mem_nil⟩⟩⟩⟩, i_c_X11_no1⟩), List.forall_mem_append.mpr ⟨inX11, List.forall_mem_append.mpr ⟨(by unfold va_wsF; exact List.forall_mem_append.mpr ⟨List.forall_mem_cons.mpr ⟨List.mem_of_getElem? (i := 1402) (by decide +kernel), List.forall_mem_cons.mpr ⟨List.mem_of_getElem? (i := 1405) (by decide +kernel), List.forall_mem_cons.mpr ⟨List.mem_of_getElem? (i := 1407) (by decide +kernel), List.forall_mem_cons.mpr ⟨List.mem_of_getElem? (i := 57) (by decide +kernel), fun _ h => absurd h List.not_mem_nil⟩⟩⟩⟩, i_c_Jx4_size⟩), List.forall_mem_append.mpr ⟨inX8, List.forall_mem_append.mpr ⟨i_c_X8_init, List.forall_mem_append.mpr ⟨(by unfold va_wsF; exact List.forall_mem_append.mpr ⟨List.forall_mem_cons.mpr ⟨List.mem_of_getElem? (i := 1443) (by decide +kernel), List.forall_mem_cons.mpr ⟨List.mem_of_getElem? (i := 1446) (by decide +kernel), List.forall_mem_cons.mpr ⟨List.mem_of_getElem? (i := 1448) (by decide +kernel), List.forall_mem_cons.mpr ⟨List.mem_of_getElem? (i := 57) (by decide +kernel), fun _ h => absurd h List.not_mem_nil⟩⟩⟩⟩, i_c_Jx4_addB⟩), (by unfold wsV; exact List.forall_mem_append.mpr ⟨List.forall_mem_cons.mpr ⟨List.mem_of_getElem? (i := 1434) (by decide +kernel), List.forall_mem_cons.mpr ⟨List.mem_of_getElem? (i := 1436) (by decide +kernel), List.forall_mem_cons.mpr ⟨List.mem_of_getElem? (i := 25) (by decide +kernel), List.forall_mem_cons.mpr ⟨List.mem_of_getElem? (i := 54) (by decide +kernel), fun _ h => absurd h List.not_mem_nil⟩⟩⟩⟩, i_c_X11_no0⟩)⟩⟩⟩⟩⟩⟩⟩⟩⟩
theorem q_c_X11_addBlocks_0 {p0 p1 p2 p3 : Int32} (hp_1 : fz_in p0 1 20) (hp_3 : fz_in p1 1 20) (hp_5 : fz_in p2 1 99) (hp_7 : fz_in p3 0 999) : (fz_in p0 1 20 ∧ fz_in p1 1 20 ∧ fz_in p2 1 99 ∧ fz_in p3 0 999) := by
  first | assumption | (simp_all [fz_in, fz_v]; done) | (simp only [fz_in, fz_v] at *; grind)
theorem q_c_X11_addBlocks_1 {p0 p1 p2 p3 : Int32} (hp_1 : fz_in p0 1 20) (hp_3 : fz_in p1 1 20) (hp_5 : fz_in p2 1 99) (hp_8 : ¬ fz_in p3 0 999) : ¬ (fz_in p0 1 20 ∧ fz_in p1 1 20 ∧ fz_in p2 1 99 ∧ fz_in p3 0 999) := by
  first | assumption | (simp_all [fz_in, fz_v]; done) | (simp only [fz_in, fz_v] at *; grind)
theorem q_c_X11_addBlocks_2 {p0 p1 p2 p3 : Int32} (hp_1 : fz_in p0 1 20) (hp_3 : fz_in p1 1 20) (hp_6 : ¬ fz_in p2 1 99) : ¬ (fz_in p0 1 20 ∧ fz_in p1 1 20 ∧ fz_in p2 1 99 ∧ fz_in p3 0 999) := by
  first | assumption | (simp_all [fz_in, fz_v]; done) | (simp only [fz_in, fz_v] at *; grind)
theorem q_c_X11_addBlocks_3 {p0 p1 p2 p3 : Int32} (hp_1 : fz_in p0 1 20) (hp_4 : ¬ fz_in p1 1 20) : ¬ (fz_in p0 1 20 ∧ fz_in p1 1 20 ∧ fz_in p2 1 99 ∧ fz_in p3 0 999) := by
  first | assumption | (simp_all [fz_in, fz_v]; done) | (simp only [fz_in, fz_v] at *; grind)
theorem q_c_X11_addBlocks_4 {p0 p1 p2 p3 : Int32} (hp_2 : ¬ fz_in p0 1 20) : ¬ (fz_in p0 1 20 ∧ fz_in p1 1 20 ∧ fz_in p2 1 99 ∧ fz_in p3 0 999) := by
  first | assumption | (simp_all [fz_in, fz_v]; done) | (simp only [fz_in, fz_v] at *; grind)
set_option maxHeartbeats 4000000 in
set_option maxRecDepth 100000 in
theorem c_X11_addBlocks (l : Launch) (dC : Nat → ClassId) (dI : Nat → Nat → Nat) (e0 : Nat) (g0 : Nat) (p0 p1 p2 p3 b4 : Int32) (mj mq mm ms mf ml : Nat) (sz : Nat) (h_b4 : b4 = 0 ∨ b4 = 1) : Met l yX11_addBlocks v_c_X11_addBlocks ({ frames := 5, cells := 2, slots := 15, locals := 117 }) (fz_P (dC, dI) e0 [(g0, .inr (16, [.ref mj, .ref mq, .ref mm, .ref ms, .ref mf, .ref ml, .int 0, .int 0, .int 1, .int 0, .int (-1), .int 0, .int 0, .int 0, .int 0, .int 0, .long 0])), (mq, .inr (4, [.int 0, .ref e0, .int 0]))] [] sz (va_A [(g0, .inr (16, [.ref mj, .ref mq, .ref mm, .ref ms, .ref mf, .ref ml, .int 0, .int 0, .int 1, .int 0, .int (-1), .int 0, .int 0, .int 0, .int 0, .int 0, .long 0])), (mq, .inr (4, [.int 0, .ref e0, .int 0]))] sz) [.ref g0, .int p0, .int p1, .int p2, .int p3, .int b4]) (va_Qi (fun (r : Int32) (u : Int32) => (r = 0 ∧ u = 0 ∧ ((fz_in p0 1 20 ∧ fz_in p1 1 20 ∧ fz_in p2 1 99 ∧ fz_in p3 0 999))) ∨ (r = 0 ∧ u = 1 ∧ (¬ (fz_in p0 1 20 ∧ fz_in p1 1 20 ∧ fz_in p2 1 99 ∧ fz_in p3 0 999)))) (fun (u : Int32) (t : State) => va_P (dC, dI) vwCl [(g0, .inr (16, [.ref mj, .ref mq, .ref mm, .ref ms, .ref mf, .ref ml, .int u, .int 0, .int 1, .int 0, .int (-1), .int 0, .int 0, .int 0, .int 0, .int 0, .long 0]))] t.heap ∧ va_K (dC, dI) vwCl [] t ∧ va_D (va_A [(g0, .inr (16, [.ref mj, .ref mq, .ref mm, .ref ms, .ref mf, .ref ml, .int 0, .int 0, .int 1, .int 0, .int (-1), .int 0, .int 0, .int 0, .int 0, .int 0, .long 0])), (mq, .inr (4, [.int 0, .ref e0, .int 0]))] sz) [(g0, .inr (16, [.ref mj, .ref mq, .ref mm, .ref ms, .ref mf, .ref ml, .int u, .int 0, .int 1, .int 0, .int (-1), .int 0, .int 0, .int 0, .int 0, .int 0, .long 0]))]) (va_A [(g0, .inr (16, [.ref mj, .ref mq, .ref mm, .ref ms, .ref mf, .ref ml, .int 0, .int 0, .int 1, .int 0, .int (-1), .int 0, .int 0, .int 0, .int 0, .int 0, .long 0])), (mq, .inr (4, [.int 0, .ref e0, .int 0]))] sz)) 2 15 (va_A [(g0, .inr (16, [.ref mj, .ref mq, .ref mm, .ref ms, .ref mf, .ref ml, .int 0, .int 0, .int 1, .int 0, .int (-1), .int 0, .int 0, .int 0, .int 0, .int 0, .long 0])), (mq, .inr (4, [.int 0, .ref e0, .int 0]))] sz) := by
  refine Met.ofW (cc := cX11_addBlocks) (maxL := 7) (ret := (some .int)) (by decide) rfl ?_
  intro p e s m args below meth c s₁ B hml hv
  obtain ⟨rfl, hsz, hP, hK, hD0, hAm⟩ := hv
  have hx := B.exec
  have hb := B.bytes
  have hr := B.returns
  have hts := atoms_spec (ws := v_c_X11_addBlocks) B.pre
  have hown : s.vm.findClass RX11 = some m.cls := findClass_of_methodNamed B.named
  have hlocks := B.notSynchronized
  subst hsz
  have hD := hD0.self (sz := s.heap.size)
  generalize hAe : va_A [(g0, .inr (16, [.ref mj, .ref mq, .ref mm, .ref ms, .ref mf, .ref ml, .int 0, .int 0, .int 1, .int 0, .int (-1), .int 0, .int 0, .int 0, .int 0, .int 0, .long 0])), (mq, .inr (4, [.int 0, .ref e0, .int 0]))] s.heap.size = A at hD hAm ⊢
  have hA : ∀ q : Nat, s.heap.size ≤ q → A q := fun q h => by rw [← hAe]; exact Or.inr h
  have hS : va_S A s.heap s.heap [] := va_S.rf
  have hP : va_P (dC, dI) vwCl [(g0, .inr (16, [.ref mj, .ref mq, .ref mm, .ref ms, .ref mf, .ref ml, .int 0, .int 0, .int 1, .int 0, .int (-1), .int 0, .int 0, .int 0, .int 0, .int 0, .long 0])), (mq, .inr (4, [.int 0, .ref e0, .int 0]))] s.heap := hP
  have hl := lv_entry ([.ref g0, .int p0, .int p1, .int p2, .int p3, .int b4]) (n := 7) (Nat.le_of_ble_eq_true rfl)
  rw [lg_entry_eq]
  generalize (lg_sl ([.ref g0, .int p0, .int p1, .int p2, .int p3, .int b4]) ++ List.replicate (7 - (lg_sl ([.ref g0, .int p0, .int p1, .int p2, .int p3, .int b4])).length) Slot.unset).toArray = ls at hl ⊢
  have hl : lv_has ls 7 [(0, .ref g0), (1, .int p0), (2, .int p1), (3, .int p2), (4, .int p3), (5, .int b4)] := hl
  refine lv_iload_n hx hb dX11_addBlocks_0 rfl (lv_at hl 1 rfl) ?_
  refine lv_i2l (v := p0.toInt64) hx hb dX11_addBlocks_1 rfl ?_
  refine lv_lconst (v := (1 : Int32).toInt64) hx hb dX11_addBlocks_2 (by decide) ?_
  refine lv_ldc2 (v := 20) hx hb hown (hts _ (List.mem_cons_of_mem _ (List.mem_append_left _ (List.mem_of_getElem? (i := 0) rfl)))) dX11_addBlocks_3 ?_
  refine lv_topl (fun z_9 e_9 => ?_)
  obtain rfl : (20 : Int32).toInt64 = z_9 := (e_9.trans (by decide)).symm
  have hPc := hP.sub (ws' := []) [] rfl
  have hDc := hD.sub (ws' := []) [] (by decide) rfl
  have hKc := hK.sub (tys' := []) [] rfl
  have hFc : ∀ q : Nat, s.heap.size ≤ q → A q := fun q h => hA q (Nat.le_trans hS.1 h)
  refine va_calli (va_runS (As := [.long p0.toInt64, .long ((1 : Int32).toInt64), .long ((20 : Int32).toInt64)]) (rest := []) ⟨hx, hb, hml, hown, hts⟩ (c_X11_isIn l dC dI e0 p0 1 20 s.heap.size) (cwS 3 hts (goodIn_sub (fun _ h9 => List.mem_cons_of_mem _ (List.mem_append_right _ (List.mem_append_left _ h9))) (by decide +kernel)) rfl rfl rfl (by decide +kernel) ⟨(Nat.le_of_ble_eq_true rfl), (Nat.le_of_ble_eq_true rfl)⟩) ⟨fz_blind, fz_pre hPc hKc hDc hAm hS hFc⟩ rfl rfl hl.1 rfl (lv_room (Nat.le_of_ble_eq_true rfl)) dX11_addBlocks_6 ⟨(Nat.le_of_ble_eq_true rfl), (Nat.le_of_ble_eq_true rfl)⟩) hS (fun q _ h => hFc q h) hFc (fun r u t H1 locs ht hvm hw hB hz1 hk1 hS => ?_)
  rcases hw with ⟨rfl, hp_1⟩ | ⟨rfl, hp_2⟩
  · have hP := fz_keep hP hk1
    generalize H1 = H at hP hS ⊢
    have hP : va_P (dC, dI) vwCl [(g0, .inr (16, [.ref mj, .ref mq, .ref mm, .ref ms, .ref mf, .ref ml, .int 0, .int 0, .int 1, .int 0, .int (-1), .int 0, .int 0, .int 0, .int 0, .int 0, .long 0])), (mq, .inr (4, [.int 0, .ref e0, .int 0]))] H := hP
    have hD : va_D A [(g0, .inr (16, [.ref mj, .ref mq, .ref mm, .ref ms, .ref mf, .ref ml, .int 0, .int 0, .int 1, .int 0, .int (-1), .int 0, .int 0, .int 0, .int 0, .int 0, .long 0])), (mq, .inr (4, [.int 0, .ref e0, .int 0]))] := hD
    refine W.widen (k := 0) (n := 0) (Nat.le_of_ble_eq_true rfl) (Nat.le_of_ble_eq_true rfl) ?_
    refine lv_if_eq (tgt := 53) hx hb dX11_addBlocks_9 (by decide) (fun c_9 => absurd c_9 (by decide)) (fun _ => ?_)
    refine lv_iload_n hx hb dX11_addBlocks_12 rfl (lv_at hl 2 rfl) ?_
    refine lv_i2l (v := p1.toInt64) hx hb dX11_addBlocks_13 rfl ?_
    refine lv_lconst (v := (1 : Int32).toInt64) hx hb dX11_addBlocks_14 (by decide) ?_
    refine lv_ldc2 (v := 20) hx hb hown (hts _ (List.mem_cons_of_mem _ (List.mem_append_left _ (List.mem_of_getElem? (i := 0) rfl)))) dX11_addBlocks_15 ?_
    refine lv_topl (fun z_9 e_9 => ?_)
    obtain rfl : (20 : Int32).toInt64 = z_9 := (e_9.trans (by decide)).symm
    have hPc := hP.sub (ws' := []) [] rfl
    have hDc := hD.sub (ws' := []) [] (by decide) rfl
    have hKc := hK.sub (tys' := []) [] rfl
    have hFc : ∀ q : Nat, H.size ≤ q → A q := fun q h => hA q (Nat.le_trans hS.1 h)
    refine va_calli (va_runS (As := [.long p1.toInt64, .long ((1 : Int32).toInt64), .long ((20 : Int32).toInt64)]) (rest := []) ⟨hx, hb, hml, hown, hts⟩ (c_X11_isIn l dC dI e0 p1 1 20 H.size) (cwS 3 hts (goodIn_sub (fun _ h9 => List.mem_cons_of_mem _ (List.mem_append_right _ (List.mem_append_left _ h9))) (by decide +kernel)) rfl rfl rfl (by decide +kernel) ⟨(Nat.le_of_ble_eq_true rfl), (Nat.le_of_ble_eq_true rfl)⟩) ⟨fz_blind, fz_pre hPc hKc hDc hAm hS hFc⟩ rfl rfl hl.1 rfl (lv_room (Nat.le_of_ble_eq_true rfl)) dX11_addBlocks_18 ⟨(Nat.le_of_ble_eq_true rfl), (Nat.le_of_ble_eq_true rfl)⟩) hS (fun q _ h => hFc q h) hFc (fun r u t H1 locs ht hvm hw hB hz1 hk1 hS => ?_)
    rcases hw with ⟨rfl, hp_3⟩ | ⟨rfl, hp_4⟩
    · have hP := fz_keep hP hk1
      generalize H1 = H at hP hS ⊢
      have hP : va_P (dC, dI) vwCl [(g0, .inr (16, [.ref mj, .ref mq, .ref mm, .ref ms, .ref mf, .ref ml, .int 0, .int 0, .int 1, .int 0, .int (-1), .int 0, .int 0, .int 0, .int 0, .int 0, .long 0])), (mq, .inr (4, [.int 0, .ref e0, .int 0]))] H := hP
      have hD : va_D A [(g0, .inr (16, [.ref mj, .ref mq, .ref mm, .ref ms, .ref mf, .ref ml, .int 0, .int 0, .int 1, .int 0, .int (-1), .int 0, .int 0, .int 0, .int 0, .int 0, .long 0])), (mq, .inr (4, [.int 0, .ref e0, .int 0]))] := hD
      refine W.widen (k := 0) (n := 0) (Nat.le_of_ble_eq_true rfl) (Nat.le_of_ble_eq_true rfl) ?_
      refine lv_if_eq (tgt := 53) hx hb dX11_addBlocks_21 (by decide) (fun c_9 => absurd c_9 (by decide)) (fun _ => ?_)
      refine lv_iload_n hx hb dX11_addBlocks_24 rfl (lv_at hl 3 rfl) ?_
      refine lv_i2l (v := p2.toInt64) hx hb dX11_addBlocks_25 rfl ?_
      refine lv_lconst (v := (1 : Int32).toInt64) hx hb dX11_addBlocks_26 (by decide) ?_
      refine lv_ldc2 (v := 99) hx hb hown (hts _ (List.mem_cons_of_mem _ (List.mem_append_left _ (List.mem_of_getElem? (i := 1) rfl)))) dX11_addBlocks_27 ?_
      refine lv_topl (fun z_9 e_9 => ?_)
      obtain rfl : (99 : Int32).toInt64 = z_9 := (e_9.trans (by decide)).symm
      have hPc := hP.sub (ws' := []) [] rfl
      have hDc := hD.sub (ws' := []) [] (by decide) rfl
      have hKc := hK.sub (tys' := []) [] rfl
      have hFc : ∀ q : Nat, H.size ≤ q → A q := fun q h => hA q (Nat.le_trans hS.1 h)
      refine va_calli (va_runS (As := [.long p2.toInt64, .long ((1 : Int32).toInt64), .long ((99 : Int32).toInt64)]) (rest := []) ⟨hx, hb, hml, hown, hts⟩ (c_X11_isIn l dC dI e0 p2 1 99 H.size) (cwS 3 hts (goodIn_sub (fun _ h9 => List.mem_cons_of_mem _ (List.mem_append_right _ (List.mem_append_left _ h9))) (by decide +kernel)) rfl rfl rfl (by decide +kernel) ⟨(Nat.le_of_ble_eq_true rfl), (Nat.le_of_ble_eq_true rfl)⟩) ⟨fz_blind, fz_pre hPc hKc hDc hAm hS hFc⟩ rfl rfl hl.1 rfl (lv_room (Nat.le_of_ble_eq_true rfl)) dX11_addBlocks_30 ⟨(Nat.le_of_ble_eq_true rfl), (Nat.le_of_ble_eq_true rfl)⟩) hS (fun q _ h => hFc q h) hFc (fun r u t H1 locs ht hvm hw hB hz1 hk1 hS => ?_)
      rcases hw with ⟨rfl, hp_5⟩ | ⟨rfl, hp_6⟩
      · have hP := fz_keep hP hk1
        generalize H1 = H at hP hS ⊢
        have hP : va_P (dC, dI) vwCl [(g0, .inr (16, [.ref mj, .ref mq, .ref mm, .ref ms, .ref mf, .ref ml, .int 0, .int 0, .int 1, .int 0, .int (-1), .int 0, .int 0, .int 0, .int 0, .int 0, .long 0])), (mq, .inr (4, [.int 0, .ref e0, .int 0]))] H := hP
        have hD : va_D A [(g0, .inr (16, [.ref mj, .ref mq, .ref mm, .ref ms, .ref mf, .ref ml, .int 0, .int 0, .int 1, .int 0, .int (-1), .int 0, .int 0, .int 0, .int 0, .int 0, .long 0])), (mq, .inr (4, [.int 0, .ref e0, .int 0]))] := hD
        refine W.widen (k := 0) (n := 0) (Nat.le_of_ble_eq_true rfl) (Nat.le_of_ble_eq_true rfl) ?_
        refine lv_if_eq (tgt := 53) hx hb dX11_addBlocks_33 (by decide) (fun c_9 => absurd c_9 (by decide)) (fun _ => ?_)
        refine lv_iload hx hb dX11_addBlocks_36 (lv_at hl 4 rfl) ?_
        refine lv_i2l (v := p3.toInt64) hx hb dX11_addBlocks_38 rfl ?_
        refine lv_lconst (v := (0 : Int32).toInt64) hx hb dX11_addBlocks_39 (by decide) ?_
        refine lv_ldc2 (v := 999) hx hb hown (hts _ (List.mem_cons_of_mem _ (List.mem_append_left _ (List.mem_of_getElem? (i := 2) rfl)))) dX11_addBlocks_40 ?_
        refine lv_topl (fun z_9 e_9 => ?_)
        obtain rfl : (999 : Int32).toInt64 = z_9 := (e_9.trans (by decide)).symm
        have hPc := hP.sub (ws' := []) [] rfl
        have hDc := hD.sub (ws' := []) [] (by decide) rfl
        have hKc := hK.sub (tys' := []) [] rfl
        have hFc : ∀ q : Nat, H.size ≤ q → A q := fun q h => hA q (Nat.le_trans hS.1 h)
        refine va_calli (va_runS (As := [.long p3.toInt64, .long ((0 : Int32).toInt64), .long ((999 : Int32).toInt64)]) (rest := []) ⟨hx, hb, hml, hown, hts⟩ (c_X11_isIn l dC dI e0 p3 0 999 H.size) (cwS 3 hts (goodIn_sub (fun _ h9 => List.mem_cons_of_mem _ (List.mem_append_right _ (List.mem_append_left _ h9))) (by decide +kernel)) rfl rfl rfl (by decide +kernel) ⟨(Nat.le_of_ble_eq_true rfl), (Nat.le_of_ble_eq_true rfl)⟩) ⟨fz_blind, fz_pre hPc hKc hDc hAm hS hFc⟩ rfl rfl hl.1 rfl (lv_room (Nat.le_of_ble_eq_true rfl)) dX11_addBlocks_43 ⟨(Nat.le_of_ble_eq_true rfl), (Nat.le_of_ble_eq_true rfl)⟩) hS (fun q _ h => hFc q h) hFc (fun r u t H1 locs ht hvm hw hB hz1 hk1 hS => ?_)
        rcases hw with ⟨rfl, hp_7⟩ | ⟨rfl, hp_8⟩
        · have hP := fz_keep hP hk1
          generalize H1 = H at hP hS ⊢
          have hP : va_P (dC, dI) vwCl [(g0, .inr (16, [.ref mj, .ref mq, .ref mm, .ref ms, .ref mf, .ref ml, .int 0, .int 0, .int 1, .int 0, .int (-1), .int 0, .int 0, .int 0, .int 0, .int 0, .long 0])), (mq, .inr (4, [.int 0, .ref e0, .int 0]))] H := hP
          have hD : va_D A [(g0, .inr (16, [.ref mj, .ref mq, .ref mm, .ref ms, .ref mf, .ref ml, .int 0, .int 0, .int 1, .int 0, .int (-1), .int 0, .int 0, .int 0, .int 0, .int 0, .long 0])), (mq, .inr (4, [.int 0, .ref e0, .int 0]))] := hD
          refine W.widen (k := 0) (n := 0) (Nat.le_of_ble_eq_true rfl) (Nat.le_of_ble_eq_true rfl) ?_
          refine lv_if_eq (tgt := 53) hx hb dX11_addBlocks_46 (by decide) (fun c_9 => absurd c_9 (by decide)) (fun _ => ?_)
          refine lv_iconst (v := 1) hx hb dX11_addBlocks_49 (by decide) ?_
          refine lv_goto (tgt := 54) hx hb dX11_addBlocks_50 (by decide) ?_
          refine lv_istore (lv' := [(6, .int 1), (0, .ref g0), (1, .int p0), (2, .int p1), (3, .int p2), (4, .int p3), (5, .int b4)]) hx hb dX11_addBlocks_54 hl (by decide) rfl (fun ls hl => ?_)
          refine lv_aload_n hx hb dX11_addBlocks_56 rfl (lv_at hl 1 rfl) ?_
          refine lv_iload hx hb dX11_addBlocks_57 (lv_at hl 0 rfl) ?_
          refine lv_iconst (v := 1) hx hb dX11_addBlocks_59 (by decide) ?_
          have hPc := hP.sub (ws' := [(g0, .inr (16, [.ref mj, .ref mq, .ref mm, .ref ms, .ref mf, .ref ml, .int 0, .int 0, .int 1, .int 0, .int (-1), .int 0, .int 0, .int 0, .int 0, .int 0, .long 0]))]) [0] rfl
          have hDc := hD.sub (ws' := [(g0, .inr (16, [.ref mj, .ref mq, .ref mm, .ref ms, .ref mf, .ref ml, .int 0, .int 0, .int 1, .int 0, .int (-1), .int 0, .int 0, .int 0, .int 0, .int 0, .long 0]))]) [0] (by decide) rfl
          have hKc := hK.sub (tys' := []) [] rfl
          have hFc := va_free (wc := [(g0, .inr (16, [.ref mj, .ref mq, .ref mm, .ref ms, .ref mf, .ref ml, .int 0, .int 0, .int 1, .int 0, .int (-1), .int 0, .int 0, .int 0, .int 0, .int 0, .long 0]))]) hD hS hA [0] rfl
          refine va_calli (va_runV (As := [.int 1, .int 1]) (rest := []) ⟨hx, hb, hml, hown, hts⟩ (c_X11_no1 l dC dI e0 g0 1 mj mq mm ms mf ml 0 H.size) (cwV 2 hts (goodIn_sub (fun _ h9 => List.mem_cons_of_mem _ (List.mem_append_right _ (List.mem_append_right _ (List.mem_append_left _ h9)))) (by decide +kernel)) rfl rfl rfl (by decide +kernel) ⟨(Nat.le_of_ble_eq_true rfl), (Nat.le_of_ble_eq_true rfl)⟩) ⟨fz_blind, va_recv hKc hPc (ci := 16) (q0 := 0) rfl rfl, fz_pre hPc hKc hDc hAm hS hFc⟩ rfl rfl hl.1 rfl (lv_room (Nat.le_of_ble_eq_true rfl)) dX11_addBlocks_60 ⟨(Nat.le_of_ble_eq_true rfl), (Nat.le_of_ble_eq_true rfl)⟩) hS (fun q _ h => hFc q h) hFc (fun r u t H1 locs ht hvm hw hB hz1 hk1 hS => ?_)
          obtain rfl := hw
          obtain ⟨hP1, hK1, hD1⟩ := hB
          rw [ht] at hP1
          have hK1 := va_K.moved hvm.symm hK1
          obtain ⟨hP, hD⟩ := va_join (wr := [(mq, .inr (4, [.int 0, .ref e0, .int 0]))]) (w1 := [(g0, .inr (16, [.ref mj, .ref mq, .ref mm, .ref ms, .ref mf, .ref ml, .int 0, .int 0, .int 1, .int 0, .int (-1), .int 0, .int 0, .int 0, .int 0, .int 0, .long 0]))]) hP hD [0] [1] rfl rfl (by decide) (by decide) hk1 hFc hP1 hD1
          generalize H1 = H at hP hS ⊢
          have hP : va_P (dC, dI) vwCl [(mq, .inr (4, [.int 0, .ref e0, .int 0])), (g0, .inr (16, [.ref mj, .ref mq, .ref mm, .ref ms, .ref mf, .ref ml, .int 0, .int 0, .int 1, .int 0, .int (-1), .int 0, .int 0, .int 0, .int 0, .int 0, .long 0]))] H := hP
          have hD : va_D A [(mq, .inr (4, [.int 0, .ref e0, .int 0])), (g0, .inr (16, [.ref mj, .ref mq, .ref mm, .ref ms, .ref mf, .ref ml, .int 0, .int 0, .int 1, .int 0, .int (-1), .int 0, .int 0, .int 0, .int 0, .int 0, .long 0]))] := hD
          have hK : va_K (dC, dI) vwCl [] s := hK
          refine W.widen (k := 0) (n := 0) (Nat.le_of_ble_eq_true rfl) (Nat.le_of_ble_eq_true rfl) ?_
          refine lv_if_ne (tgt := 93) hx hb dX11_addBlocks_63 (by decide) (fun c_9 => absurd (by decide) c_9) (fun _ => ?_)
          refine lv_aload_n hx hb dX11_addBlocks_66 rfl (lv_at hl 1 rfl) ?_
          refine lv_aload_n hx hb dX11_addBlocks_67 rfl (lv_at hl 1 rfl) ?_
          refine va_get (D := (dC, dI)) (ci := 16) (v := .ref mq) (C := RX11) (T := TX11) (N := 17) hx hb hts (fun _ h9 => List.mem_cons_of_mem _ (List.mem_append_right _ (List.mem_append_right _ (List.mem_append_right _ (List.mem_append_left _ h9))))) hown hK hP 1 rfl rfl 1 (by decide) (hts _ (List.mem_cons_of_mem _ (List.mem_append_left _ (List.mem_of_getElem? (i := 3) rfl)))) (fun _ h9 => h9) rfl dX11_addBlocks_68 ?_
          have hPc := hP.sub (ws' := [(mq, .inr (4, [.int 0, .ref e0, .int 0]))]) [0] rfl
          have hDc := hD.sub (ws' := [(mq, .inr (4, [.int 0, .ref e0, .int 0]))]) [0] (by decide) rfl
          have hKc := hK.sub (tys' := []) [] rfl
          have hFc : ∀ q : Nat, H.size ≤ q → A q := fun q h => hA q (Nat.le_trans hS.1 h)
          refine va_callFi (va_runF (As := []) (rest := [.ref g0]) (hK.1 4 _ rfl).2 ⟨hx, hb, hml, hown, hts⟩ (c_Jx4_size l dC dI e0 mq 0 e0 0 H.size) (va_cwF 0 hts (goodIn_sub (fun _ h9 => List.mem_cons_of_mem _ (List.mem_append_right _ (List.mem_append_right _ (List.mem_append_right _ (List.mem_append_right _ (List.mem_append_left _ h9)))))) (by decide +kernel)) rfl rfl rfl hAm.1.2.2.2.1.2.1 (by decide +kernel) ⟨(Nat.le_of_ble_eq_true rfl), (Nat.le_of_ble_eq_true rfl)⟩) ⟨fz_blind, va_recv hKc hPc (ci := 4) (q0 := 0) rfl rfl, fz_pre hPc hKc hDc hAm hS hFc⟩ rfl rfl hl.1 rfl (lv_room (Nat.le_of_ble_eq_true rfl)) dX11_addBlocks_71 ⟨(Nat.le_of_ble_eq_true rfl), (Nat.le_of_ble_eq_true rfl)⟩) hS (fun q _ h => hFc q h) hFc (fun r u t H1 locs ht hvm hw hB hz1 hk1 hS => ?_)
          obtain rfl := hw
          have hP := fz_keep hP hk1
          generalize H1 = H at hP hS ⊢
          have hP : va_P (dC, dI) vwCl [(mq, .inr (4, [.int 0, .ref e0, .int 0])), (g0, .inr (16, [.ref mj, .ref mq, .ref mm, .ref ms, .ref mf, .ref ml, .int 0, .int 0, .int 1, .int 0, .int (-1), .int 0, .int 0, .int 0, .int 0, .int 0, .long 0]))] H := hP
          have hD : va_D A [(mq, .inr (4, [.int 0, .ref e0, .int 0])), (g0, .inr (16, [.ref mj, .ref mq, .ref mm, .ref ms, .ref mf, .ref ml, .int 0, .int 0, .int 1, .int 0, .int (-1), .int 0, .int 0, .int 0, .int 0, .int 0, .long 0]))] := hD
          refine W.widen (k := 0) (n := 0) (Nat.le_of_ble_eq_true rfl) (Nat.le_of_ble_eq_true rfl) ?_
          refine lv_bipush (v := 6) hx hb dX11_addBlocks_76 (by decide) ?_
          refine lv_icmp_ge (tgt := 85) hx hb dX11_addBlocks_78 (by decide) (fun c_9 => absurd c_9 (by decide)) (fun _ => ?_)
          refine lv_iconst (v := 1) hx hb dX11_addBlocks_81 (by decide) ?_
          refine lv_goto (tgt := 86) hx hb dX11_addBlocks_82 (by decide) ?_
          refine lv_iconst (v := 2) hx hb dX11_addBlocks_86 (by decide) ?_
          have hPc := hP.sub (ws' := [(g0, .inr (16, [.ref mj, .ref mq, .ref mm, .ref ms, .ref mf, .ref ml, .int 0, .int 0, .int 1, .int 0, .int (-1), .int 0, .int 0, .int 0, .int 0, .int 0, .long 0]))]) [1] rfl
          have hDc := hD.sub (ws' := [(g0, .inr (16, [.ref mj, .ref mq, .ref mm, .ref ms, .ref mf, .ref ml, .int 0, .int 0, .int 1, .int 0, .int (-1), .int 0, .int 0, .int 0, .int 0, .int 0, .long 0]))]) [1] (by decide) rfl
          have hKc := hK.sub (tys' := []) [] rfl
          have hFc := va_free (wc := [(g0, .inr (16, [.ref mj, .ref mq, .ref mm, .ref ms, .ref mf, .ref ml, .int 0, .int 0, .int 1, .int 0, .int (-1), .int 0, .int 0, .int 0, .int 0, .int 0, .long 0]))]) hD hS hA [1] rfl
          refine va_calli (va_runV (As := [.int 1, .int 2]) (rest := []) ⟨hx, hb, hml, hown, hts⟩ (c_X11_no1 l dC dI e0 g0 2 mj mq mm ms mf ml 0 H.size) (cwV 2 hts (goodIn_sub (fun _ h9 => List.mem_cons_of_mem _ (List.mem_append_right _ (List.mem_append_right _ (List.mem_append_left _ h9)))) (by decide +kernel)) rfl rfl rfl (by decide +kernel) ⟨(Nat.le_of_ble_eq_true rfl), (Nat.le_of_ble_eq_true rfl)⟩) ⟨fz_blind, va_recv hKc hPc (ci := 16) (q0 := 0) rfl rfl, fz_pre hPc hKc hDc hAm hS hFc⟩ rfl rfl hl.1 rfl (lv_room (Nat.le_of_ble_eq_true rfl)) dX11_addBlocks_87 ⟨(Nat.le_of_ble_eq_true rfl), (Nat.le_of_ble_eq_true rfl)⟩) hS (fun q _ h => hFc q h) hFc (fun r u t H1 locs ht hvm hw hB hz1 hk1 hS => ?_)
          obtain rfl := hw
          obtain ⟨hP1, hK1, hD1⟩ := hB
          rw [ht] at hP1
          have hK1 := va_K.moved hvm.symm hK1
          obtain ⟨hP, hD⟩ := va_join (wr := [(mq, .inr (4, [.int 0, .ref e0, .int 0]))]) (w1 := [(g0, .inr (16, [.ref mj, .ref mq, .ref mm, .ref ms, .ref mf, .ref ml, .int 0, .int 0, .int 1, .int 0, .int (-1), .int 0, .int 0, .int 0, .int 0, .int 0, .long 0]))]) hP hD [1] [0] rfl rfl (by decide) (by decide) hk1 hFc hP1 hD1
          generalize H1 = H at hP hS ⊢
          have hP : va_P (dC, dI) vwCl [(mq, .inr (4, [.int 0, .ref e0, .int 0])), (g0, .inr (16, [.ref mj, .ref mq, .ref mm, .ref ms, .ref mf, .ref ml, .int 0, .int 0, .int 1, .int 0, .int (-1), .int 0, .int 0, .int 0, .int 0, .int 0, .long 0]))] H := hP
          have hD : va_D A [(mq, .inr (4, [.int 0, .ref e0, .int 0])), (g0, .inr (16, [.ref mj, .ref mq, .ref mm, .ref ms, .ref mf, .ref ml, .int 0, .int 0, .int 1, .int 0, .int (-1), .int 0, .int 0, .int 0, .int 0, .int 0, .long 0]))] := hD
          have hK : va_K (dC, dI) vwCl [] s := hK
          refine W.widen (k := 0) (n := 0) (Nat.le_of_ble_eq_true rfl) (Nat.le_of_ble_eq_true rfl) ?_
          refine lv_if_eq (tgt := 95) hx hb dX11_addBlocks_90 (by decide) (fun _ => ?_) (fun c_9 => absurd (by decide) c_9)
          refine lv_aload_n hx hb dX11_addBlocks_95 rfl (lv_at hl 1 rfl) ?_
          refine va_get (D := (dC, dI)) (ci := 16) (v := .ref mq) (C := RX11) (T := TX11) (N := 17) hx hb hts (fun _ h9 => List.mem_cons_of_mem _ (List.mem_append_right _ (List.mem_append_right _ (List.mem_append_right _ (List.mem_append_left _ h9))))) hown hK hP 1 rfl rfl 1 (by decide) (hts _ (List.mem_cons_of_mem _ (List.mem_append_left _ (List.mem_of_getElem? (i := 3) rfl)))) (fun _ h9 => h9) rfl dX11_addBlocks_96 ?_
          refine va_new (ci := 13) (fs := [.int 0, .int 0, .int 0, .int 0, .int 0]) (C := RX8) (T := TX8) (N := 5) hx hb hts (fun _ h9 => List.mem_cons_of_mem _ (List.mem_append_right _ (List.mem_append_right _ (List.mem_append_right _ (List.mem_append_right _ (List.mem_append_right _ (List.mem_append_left _ h9))))))) tyX8 tyX8_ok hown (hts _ (List.mem_cons_of_mem _ (List.mem_append_left _ (List.mem_of_getElem? (i := 4) rfl)))) (hts _ (List.mem_cons_of_mem _ (List.mem_append_left _ (List.mem_of_getElem? (i := 5) rfl)))) (hts _ (List.mem_cons_of_mem _ (List.mem_append_left _ (List.mem_of_getElem? (i := 6) rfl)))) hK hP hD hS hA rfl (fun j hj => by rcases (show j = 0 ∨ j = 1 ∨ j = 2 ∨ j = 3 ∨ j = 4 by omega) with rfl | rfl | rfl | rfl | rfl <;> rfl) (Nat.le_of_ble_eq_true rfl) (Nat.le_of_ble_eq_true rfl) dX11_addBlocks_99 (fun q_9 H hP hD hS => ?_)
          have hP : va_P (dC, dI) vwCl [(mq, .inr (4, [.int 0, .ref e0, .int 0])), (g0, .inr (16, [.ref mj, .ref mq, .ref mm, .ref ms, .ref mf, .ref ml, .int 0, .int 0, .int 1, .int 0, .int (-1), .int 0, .int 0, .int 0, .int 0, .int 0, .long 0])), (q_9, .inr (13, [.int 0, .int 0, .int 0, .int 0, .int 0]))] H := hP
          have hD : va_D A [(mq, .inr (4, [.int 0, .ref e0, .int 0])), (g0, .inr (16, [.ref mj, .ref mq, .ref mm, .ref ms, .ref mf, .ref ml, .int 0, .int 0, .int 1, .int 0, .int (-1), .int 0, .int 0, .int 0, .int 0, .int 0, .long 0])), (q_9, .inr (13, [.int 0, .int 0, .int 0, .int 0, .int 0]))] := hD
          refine W.widen (k := 1) (n := 5) (Nat.le_of_ble_eq_true rfl) (Nat.le_of_ble_eq_true rfl) ?_
          refine lv_dup hx hb dX11_addBlocks_102 rfl ?_
          refine lv_iload_n hx hb dX11_addBlocks_103 rfl (lv_at hl 2 rfl) ?_
          refine lv_iload_n hx hb dX11_addBlocks_104 rfl (lv_at hl 3 rfl) ?_
          refine lv_iload_n hx hb dX11_addBlocks_105 rfl (lv_at hl 4 rfl) ?_
          refine lv_iload hx hb dX11_addBlocks_106 (lv_at hl 5 rfl) ?_
          refine lv_iload hx hb dX11_addBlocks_108 (lv_at hl 6 rfl) ?_
          have hPc := hP.sub (ws' := [(q_9, .inr (13, [.int 0, .int 0, .int 0, .int 0, .int 0]))]) [2] rfl
          have hDc := hD.sub (ws' := [(q_9, .inr (13, [.int 0, .int 0, .int 0, .int 0, .int 0]))]) [2] (by decide) rfl
          have hKc := hK.sub (tys' := []) [] rfl
          have hFc := va_free (wc := [(q_9, .inr (13, [.int 0, .int 0, .int 0, .int 0, .int 0]))]) hD hS hA [2] rfl
          refine va_callv (va_runI (As := [.int p0, .int p1, .int p2, .int p3, .int b4]) (rest := [.ref q_9, .ref mq]) ⟨hx, hb, hml, hown, hts⟩ (c_X8_init l dC dI e0 q_9 p0 p1 p2 p3 b4 H.size h_b4) (cwI 5 hts (goodIn_sub (fun _ h9 => List.mem_cons_of_mem _ (List.mem_append_right _ (List.mem_append_right _ (List.mem_append_right _ (List.mem_append_right _ (List.mem_append_right _ (List.mem_append_right _ (List.mem_append_left _ h9)))))))) (by decide +kernel)) rfl rfl rfl (hts _ (List.mem_cons_of_mem _ (List.mem_append_left _ (List.mem_of_getElem? (i := 6) rfl)))) (hts _ (List.mem_cons_of_mem _ (List.mem_append_left _ (List.mem_of_getElem? (i := 7) rfl)))) (hts _ (List.mem_cons_of_mem _ (List.mem_append_left _ (List.mem_of_getElem? (i := 8) rfl)))) rfl (by decide +kernel) ⟨(Nat.le_of_ble_eq_true rfl), (Nat.le_of_ble_eq_true rfl)⟩) ⟨fz_blind, fz_pre hPc hKc hDc hAm hS hFc⟩ rfl rfl hl.1 rfl (lv_room (Nat.le_of_ble_eq_true rfl)) dX11_addBlocks_110 ⟨(Nat.le_of_ble_eq_true rfl), (Nat.le_of_ble_eq_true rfl)⟩) hS (fun q _ h => hFc q h) hFc (fun u t H1 locs ht hvm hw hB hz1 hk1 hS => ?_)
          obtain ⟨hP1, hK1, hD1⟩ := hB
          rw [ht] at hP1
          have hK1 := va_K.moved hvm.symm hK1
          obtain ⟨hP, hD⟩ := va_join (wr := [(mq, .inr (4, [.int 0, .ref e0, .int 0])), (g0, .inr (16, [.ref mj, .ref mq, .ref mm, .ref ms, .ref mf, .ref ml, .int 0, .int 0, .int 1, .int 0, .int (-1), .int 0, .int 0, .int 0, .int 0, .int 0, .long 0]))]) (w1 := [(q_9, .inr (13, [.int p0, .int p1, .int p3, .int b4, .int p2]))]) hP hD [2] [0, 1] rfl rfl (by decide) (by decide) hk1 hFc hP1 hD1
          generalize H1 = H at hP hS ⊢
          have hP : va_P (dC, dI) vwCl [(mq, .inr (4, [.int 0, .ref e0, .int 0])), (g0, .inr (16, [.ref mj, .ref mq, .ref mm, .ref ms, .ref mf, .ref ml, .int 0, .int 0, .int 1, .int 0, .int (-1), .int 0, .int 0, .int 0, .int 0, .int 0, .long 0])), (q_9, .inr (13, [.int p0, .int p1, .int p3, .int b4, .int p2]))] H := hP
          have hD : va_D A [(mq, .inr (4, [.int 0, .ref e0, .int 0])), (g0, .inr (16, [.ref mj, .ref mq, .ref mm, .ref ms, .ref mf, .ref ml, .int 0, .int 0, .int 1, .int 0, .int (-1), .int 0, .int 0, .int 0, .int 0, .int 0, .long 0])), (q_9, .inr (13, [.int p0, .int p1, .int p3, .int b4, .int p2]))] := hD
          have hK : va_K (dC, dI) vwCl [] s := hK
          refine W.widen (k := 1) (n := 5) (Nat.le_of_ble_eq_true rfl) (Nat.le_of_ble_eq_true rfl) ?_
          have hPc := hP.sub (ws' := [(mq, .inr (4, [.int 0, .ref e0, .int 0])), (q_9, .inr (13, [.int p0, .int p1, .int p3, .int b4, .int p2]))]) [0, 2] rfl
          have hDc := hD.sub (ws' := [(mq, .inr (4, [.int 0, .ref e0, .int 0])), (q_9, .inr (13, [.int p0, .int p1, .int p3, .int b4, .int p2]))]) [0, 2] (by decide) rfl
          have hKc := hK.sub (tys' := []) [] rfl
          have hFc := va_free (wc := [(mq, .inr (4, [.int 0, .ref e0, .int 0])), (q_9, .inr (13, [.int p0, .int p1, .int p3, .int b4, .int p2]))]) hD hS hA [0, 2] rfl
          refine va_callFi (va_runF (As := [.ref q_9]) (rest := []) (hK.1 4 _ rfl).2 ⟨hx, hb, hml, hown, hts⟩ (c_Jx4_addB l dC dI e0 mq q_9 p0 p1 p3 b4 p2 H.size) (va_cwF 1 hts (goodIn_sub (fun _ h9 => List.mem_cons_of_mem _ (List.mem_append_right _ (List.mem_append_right _ (List.mem_append_right _ (List.mem_append_right _ (List.mem_append_right _ (List.mem_append_right _ (List.mem_append_right _ (List.mem_append_left _ h9))))))))) (by decide +kernel)) rfl rfl rfl hAm.1.2.2.2.1.2.2 (by decide +kernel) ⟨(Nat.le_of_ble_eq_true rfl), (Nat.le_of_ble_eq_true rfl)⟩) ⟨fz_blind, va_recv hKc hPc (ci := 4) (q0 := 0) rfl rfl, fz_pre hPc hKc hDc hAm hS hFc⟩ rfl rfl hl.1 rfl (lv_room (Nat.le_of_ble_eq_true rfl)) dX11_addBlocks_113 ⟨(Nat.le_of_ble_eq_true rfl), (Nat.le_of_ble_eq_true rfl)⟩) hS (fun q _ h => hFc q h) hFc (fun r u t H1 locs ht hvm hw hB hz1 hk1 hS => ?_)
          obtain rfl := hw
          obtain ⟨hel_10, hP1, hK1, hD1⟩ := hB
          rw [ht] at hP1
          have hK1 := va_K.moved hvm.symm hK1
          obtain ⟨hP, hD⟩ := va_join (wr := [(g0, .inr (16, [.ref mj, .ref mq, .ref mm, .ref ms, .ref mf, .ref ml, .int 0, .int 0, .int 1, .int 0, .int (-1), .int 0, .int 0, .int 0, .int 0, .int 0, .long 0]))]) (w1 := [(mq, .inr (4, [.int 1, .ref hel_10, .int 1]))]) hP hD [0, 2] [1] rfl rfl (by decide) (by decide) hk1 hFc hP1 hD1
          generalize H1 = H at hP hS ⊢
          have hP : va_P (dC, dI) vwCl [(g0, .inr (16, [.ref mj, .ref mq, .ref mm, .ref ms, .ref mf, .ref ml, .int 0, .int 0, .int 1, .int 0, .int (-1), .int 0, .int 0, .int 0, .int 0, .int 0, .long 0])), (mq, .inr (4, [.int 1, .ref hel_10, .int 1]))] H := hP
          have hD : va_D A [(g0, .inr (16, [.ref mj, .ref mq, .ref mm, .ref ms, .ref mf, .ref ml, .int 0, .int 0, .int 1, .int 0, .int (-1), .int 0, .int 0, .int 0, .int 0, .int 0, .long 0])), (mq, .inr (4, [.int 1, .ref hel_10, .int 1]))] := hD
          have hK : va_K (dC, dI) vwCl [] s := hK
          refine W.widen (k := 2) (n := 15) (Nat.le_of_ble_eq_true rfl) (Nat.le_of_ble_eq_true rfl) ?_
          refine lv_pop hx hb dX11_addBlocks_118 rfl ?_
          refine lv_aload_n hx hb dX11_addBlocks_119 rfl (lv_at hl 1 rfl) ?_
          refine va_get (D := (dC, dI)) (ci := 16) (v := .ref mq) (C := RX11) (T := TX11) (N := 17) hx hb hts (fun _ h9 => List.mem_cons_of_mem _ (List.mem_append_right _ (List.mem_append_right _ (List.mem_append_right _ (List.mem_append_left _ h9))))) hown hK hP 0 rfl rfl 1 (by decide) (hts _ (List.mem_cons_of_mem _ (List.mem_append_left _ (List.mem_of_getElem? (i := 3) rfl)))) (fun _ h9 => h9) rfl dX11_addBlocks_120 ?_
          have hPc := hP.sub (ws' := [(mq, .inr (4, [.int 1, .ref hel_10, .int 1]))]) [1] rfl
          have hDc := hD.sub (ws' := [(mq, .inr (4, [.int 1, .ref hel_10, .int 1]))]) [1] (by decide) rfl
          have hKc := hK.sub (tys' := []) [] rfl
          have hFc : ∀ q : Nat, H.size ≤ q → A q := fun q h => hA q (Nat.le_trans hS.1 h)
          refine va_callFi (va_runF (As := []) (rest := []) (hK.1 4 _ rfl).2 ⟨hx, hb, hml, hown, hts⟩ (c_Jx4_size l dC dI e0 mq 1 hel_10 1 H.size) (va_cwF 0 hts (goodIn_sub (fun _ h9 => List.mem_cons_of_mem _ (List.mem_append_right _ (List.mem_append_right _ (List.mem_append_right _ (List.mem_append_right _ (List.mem_append_left _ h9)))))) (by decide +kernel)) rfl rfl rfl hAm.1.2.2.2.1.2.1 (by decide +kernel) ⟨(Nat.le_of_ble_eq_true rfl), (Nat.le_of_ble_eq_true rfl)⟩) ⟨fz_blind, va_recv hKc hPc (ci := 4) (q0 := 0) rfl rfl, fz_pre hPc hKc hDc hAm hS hFc⟩ rfl rfl hl.1 rfl (lv_room (Nat.le_of_ble_eq_true rfl)) dX11_addBlocks_123 ⟨(Nat.le_of_ble_eq_true rfl), (Nat.le_of_ble_eq_true rfl)⟩) hS (fun q _ h => hFc q h) hFc (fun r u t H1 locs ht hvm hw hB hz1 hk1 hS => ?_)
          obtain rfl := hw
          have hP := fz_keep hP hk1
          generalize H1 = H at hP hS ⊢
          have hP : va_P (dC, dI) vwCl [(g0, .inr (16, [.ref mj, .ref mq, .ref mm, .ref ms, .ref mf, .ref ml, .int 0, .int 0, .int 1, .int 0, .int (-1), .int 0, .int 0, .int 0, .int 0, .int 0, .long 0])), (mq, .inr (4, [.int 1, .ref hel_10, .int 1]))] H := hP
          have hD : va_D A [(g0, .inr (16, [.ref mj, .ref mq, .ref mm, .ref ms, .ref mf, .ref ml, .int 0, .int 0, .int 1, .int 0, .int (-1), .int 0, .int 0, .int 0, .int 0, .int 0, .long 0])), (mq, .inr (4, [.int 1, .ref hel_10, .int 1]))] := hD
          refine W.widen (k := 2) (n := 15) (Nat.le_of_ble_eq_true rfl) (Nat.le_of_ble_eq_true rfl) ?_
          refine lv_iconst (v := 1) hx hb dX11_addBlocks_128 (by decide) ?_
          refine lv_isub hx hb dX11_addBlocks_129 ?_
          refine lv_topi (fun z_9 e_9 => ?_)
          obtain rfl : 0 = z_9 := (e_9.trans (by decide)).symm
          have hP9 := hP.sub (ws' := [(g0, .inr (16, [.ref mj, .ref mq, .ref mm, .ref ms, .ref mf, .ref ml, .int 0, .int 0, .int 1, .int 0, .int (-1), .int 0, .int 0, .int 0, .int 0, .int 0, .long 0]))]) [0] rfl
          have hD9 := hD.sub (ws' := [(g0, .inr (16, [.ref mj, .ref mq, .ref mm, .ref ms, .ref mf, .ref ml, .int 0, .int 0, .int 1, .int 0, .int (-1), .int 0, .int 0, .int 0, .int 0, .int 0, .long 0]))]) [0] (by decide) rfl
          have hK9 := hK.sub (tys' := []) [] rfl
          refine W.widen (k := 2) (n := 15) (Nat.le_of_ble_eq_true rfl) (Nat.le_of_ble_eq_true rfl) ?_
          exact W.iret (v := 0) hx hb hr (fun t ht hW => ⟨⟨0, 0, rfl, Or.inl (⟨rfl, rfl, (q_c_X11_addBlocks_0 hp_1 hp_3 hp_5 hp_7)⟩), ⟨by rw [ht]; exact hP9, va_K.moved hW.alike hK9, hD9⟩⟩, hS.F ht⟩) hS.2.2 dX11_addBlocks_130
        · have hP := fz_keep hP hk1
          generalize H1 = H at hP hS ⊢
          have hP : va_P (dC, dI) vwCl [(g0, .inr (16, [.ref mj, .ref mq, .ref mm, .ref ms, .ref mf, .ref ml, .int 0, .int 0, .int 1, .int 0, .int (-1), .int 0, .int 0, .int 0, .int 0, .int 0, .long 0])), (mq, .inr (4, [.int 0, .ref e0, .int 0]))] H := hP
          have hD : va_D A [(g0, .inr (16, [.ref mj, .ref mq, .ref mm, .ref ms, .ref mf, .ref ml, .int 0, .int 0, .int 1, .int 0, .int (-1), .int 0, .int 0, .int 0, .int 0, .int 0, .long 0])), (mq, .inr (4, [.int 0, .ref e0, .int 0]))] := hD
          refine W.widen (k := 0) (n := 0) (Nat.le_of_ble_eq_true rfl) (Nat.le_of_ble_eq_true rfl) ?_
          refine lv_if_eq (tgt := 53) hx hb dX11_addBlocks_46 (by decide) (fun _ => ?_) (fun c_9 => absurd (by decide) c_9)
          refine lv_iconst (v := 0) hx hb dX11_addBlocks_53 (by decide) ?_
          refine lv_istore (lv' := [(6, .int 0), (0, .ref g0), (1, .int p0), (2, .int p1), (3, .int p2), (4, .int p3), (5, .int b4)]) hx hb dX11_addBlocks_54 hl (by decide) rfl (fun ls hl => ?_)
          refine lv_aload_n hx hb dX11_addBlocks_56 rfl (lv_at hl 1 rfl) ?_
          refine lv_iload hx hb dX11_addBlocks_57 (lv_at hl 0 rfl) ?_
          refine lv_iconst (v := 1) hx hb dX11_addBlocks_59 (by decide) ?_
          have hPc := hP.sub (ws' := [(g0, .inr (16, [.ref mj, .ref mq, .ref mm, .ref ms, .ref mf, .ref ml, .int 0, .int 0, .int 1, .int 0, .int (-1), .int 0, .int 0, .int 0, .int 0, .int 0, .long 0]))]) [0] rfl
          have hDc := hD.sub (ws' := [(g0, .inr (16, [.ref mj, .ref mq, .ref mm, .ref ms, .ref mf, .ref ml, .int 0, .int 0, .int 1, .int 0, .int (-1), .int 0, .int 0, .int 0, .int 0, .int 0, .long 0]))]) [0] (by decide) rfl
          have hKc := hK.sub (tys' := []) [] rfl
          have hFc := va_free (wc := [(g0, .inr (16, [.ref mj, .ref mq, .ref mm, .ref ms, .ref mf, .ref ml, .int 0, .int 0, .int 1, .int 0, .int (-1), .int 0, .int 0, .int 0, .int 0, .int 0, .long 0]))]) hD hS hA [0] rfl
          refine va_calli (va_runV (As := [.int 0, .int 1]) (rest := []) ⟨hx, hb, hml, hown, hts⟩ (c_X11_no0 l dC dI e0 g0 1 mj mq mm ms mf ml 0 H.size) (cwV 2 hts (goodIn_sub (fun _ h9 => List.mem_cons_of_mem _ (List.mem_append_right _ (List.mem_append_right _ (List.mem_append_right _ (List.mem_append_right _ (List.mem_append_right _ (List.mem_append_right _ (List.mem_append_right _ (List.mem_append_right _ h9))))))))) (by decide +kernel)) rfl rfl rfl (by decide +kernel) ⟨(Nat.le_of_ble_eq_true rfl), (Nat.le_of_ble_eq_true rfl)⟩) ⟨fz_blind, va_recv hKc hPc (ci := 16) (q0 := 0) rfl rfl, fz_pre hPc hKc hDc hAm hS hFc⟩ rfl rfl hl.1 rfl (lv_room (Nat.le_of_ble_eq_true rfl)) dX11_addBlocks_60 ⟨(Nat.le_of_ble_eq_true rfl), (Nat.le_of_ble_eq_true rfl)⟩) hS (fun q _ h => hFc q h) hFc (fun r u t H1 locs ht hvm hw hB hz1 hk1 hS => ?_)
          obtain rfl := hw
          obtain ⟨hP1, hK1, hD1⟩ := hB
          rw [ht] at hP1
          have hK1 := va_K.moved hvm.symm hK1
          obtain ⟨hP, hD⟩ := va_join (wr := [(mq, .inr (4, [.int 0, .ref e0, .int 0]))]) (w1 := [(g0, .inr (16, [.ref mj, .ref mq, .ref mm, .ref ms, .ref mf, .ref ml, .int 1, .int 0, .int 1, .int 0, .int (-1), .int 0, .int 0, .int 0, .int 0, .int 0, .long 0]))]) hP hD [0] [1] rfl rfl (by decide) (by decide) hk1 hFc hP1 hD1
          generalize H1 = H at hP hS ⊢
          have hP : va_P (dC, dI) vwCl [(mq, .inr (4, [.int 0, .ref e0, .int 0])), (g0, .inr (16, [.ref mj, .ref mq, .ref mm, .ref ms, .ref mf, .ref ml, .int 1, .int 0, .int 1, .int 0, .int (-1), .int 0, .int 0, .int 0, .int 0, .int 0, .long 0]))] H := hP
          have hD : va_D A [(mq, .inr (4, [.int 0, .ref e0, .int 0])), (g0, .inr (16, [.ref mj, .ref mq, .ref mm, .ref ms, .ref mf, .ref ml, .int 1, .int 0, .int 1, .int 0, .int (-1), .int 0, .int 0, .int 0, .int 0, .int 0, .long 0]))] := hD
          have hK : va_K (dC, dI) vwCl [] s := hK
          refine W.widen (k := 0) (n := 0) (Nat.le_of_ble_eq_true rfl) (Nat.le_of_ble_eq_true rfl) ?_
          refine lv_if_ne (tgt := 93) hx hb dX11_addBlocks_63 (by decide) (fun _ => ?_) (fun c_9 => absurd c_9 (by decide))
          refine lv_iconst (v := 0) hx hb dX11_addBlocks_93 (by decide) ?_
          have hP9 := hP.sub (ws' := [(g0, .inr (16, [.ref mj, .ref mq, .ref mm, .ref ms, .ref mf, .ref ml, .int 1, .int 0, .int 1, .int 0, .int (-1), .int 0, .int 0, .int 0, .int 0, .int 0, .long 0]))]) [1] rfl
          have hD9 := hD.sub (ws' := [(g0, .inr (16, [.ref mj, .ref mq, .ref mm, .ref ms, .ref mf, .ref ml, .int 1, .int 0, .int 1, .int 0, .int (-1), .int 0, .int 0, .int 0, .int 0, .int 0, .long 0]))]) [1] (by decide) rfl
          have hK9 := hK.sub (tys' := []) [] rfl
          refine W.widen (k := 2) (n := 15) (Nat.le_of_ble_eq_true rfl) (Nat.le_of_ble_eq_true rfl) ?_
          exact W.iret (v := 0) hx hb hr (fun t ht hW => ⟨⟨0, 1, rfl, Or.inr (⟨rfl, rfl, (q_c_X11_addBlocks_1 hp_1 hp_3 hp_5 hp_8)⟩), ⟨by rw [ht]; exact hP9, va_K.moved hW.alike hK9, hD9⟩⟩, hS.F ht⟩) hS.2.2 dX11_addBlocks_94
      · have hP := fz_keep hP hk1
        generalize H1 = H at hP hS ⊢
        have hP : va_P (dC, dI) vwCl [(g0, .inr (16, [.ref mj, .ref mq, .ref mm, .ref ms, .ref mf, .ref ml, .int 0, .int 0, .int 1, .int 0, .int (-1), .int 0, .int 0, .int 0, .int 0, .int 0, .long 0])), (mq, .inr (4, [.int 0, .ref e0, .int 0]))] H := hP
        have hD : va_D A [(g0, .inr (16, [.ref mj, .ref mq, .ref mm, .ref ms, .ref mf, .ref ml, .int 0, .int 0, .int 1, .int 0, .int (-1), .int 0, .int 0, .int 0, .int 0, .int 0, .long 0])), (mq, .inr (4, [.int 0, .ref e0, .int 0]))] := hD
        refine W.widen (k := 0) (n := 0) (Nat.le_of_ble_eq_true rfl) (Nat.le_of_ble_eq_true rfl) ?_
        refine lv_if_eq (tgt := 53) hx hb dX11_addBlocks_33 (by decide) (fun _ => ?_) (fun c_9 => absurd (by decide) c_9)
        refine lv_iconst (v := 0) hx hb dX11_addBlocks_53 (by decide) ?_
        refine lv_istore (lv' := [(6, .int 0), (0, .ref g0), (1, .int p0), (2, .int p1), (3, .int p2), (4, .int p3), (5, .int b4)]) hx hb dX11_addBlocks_54 hl (by decide) rfl (fun ls hl => ?_)
        refine lv_aload_n hx hb dX11_addBlocks_56 rfl (lv_at hl 1 rfl) ?_
        refine lv_iload hx hb dX11_addBlocks_57 (lv_at hl 0 rfl) ?_
        refine lv_iconst (v := 1) hx hb dX11_addBlocks_59 (by decide) ?_
        have hPc := hP.sub (ws' := [(g0, .inr (16, [.ref mj, .ref mq, .ref mm, .ref ms, .ref mf, .ref ml, .int 0, .int 0, .int 1, .int 0, .int (-1), .int 0, .int 0, .int 0, .int 0, .int 0, .long 0]))]) [0] rfl
        have hDc := hD.sub (ws' := [(g0, .inr (16, [.ref mj, .ref mq, .ref mm, .ref ms, .ref mf, .ref ml, .int 0, .int 0, .int 1, .int 0, .int (-1), .int 0, .int 0, .int 0, .int 0, .int 0, .long 0]))]) [0] (by decide) rfl
        have hKc := hK.sub (tys' := []) [] rfl
        have hFc := va_free (wc := [(g0, .inr (16, [.ref mj, .ref mq, .ref mm, .ref ms, .ref mf, .ref ml, .int 0, .int 0, .int 1, .int 0, .int (-1), .int 0, .int 0, .int 0, .int 0, .int 0, .long 0]))]) hD hS hA [0] rfl
        refine va_calli (va_runV (As := [.int 0, .int 1]) (rest := []) ⟨hx, hb, hml, hown, hts⟩ (c_X11_no0 l dC dI e0 g0 1 mj mq mm ms mf ml 0 H.size) (cwV 2 hts (goodIn_sub (fun _ h9 => List.mem_cons_of_mem _ (List.mem_append_right _ (List.mem_append_right _ (List.mem_append_right _ (List.mem_append_right _ (List.mem_append_right _ (List.mem_append_right _ (List.mem_append_right _ (List.mem_append_right _ h9))))))))) (by decide +kernel)) rfl rfl rfl (by decide +kernel) ⟨(Nat.le_of_ble_eq_true rfl), (Nat.le_of_ble_eq_true rfl)⟩) ⟨fz_blind, va_recv hKc hPc (ci := 16) (q0 := 0) rfl rfl, fz_pre hPc hKc hDc hAm hS hFc⟩ rfl rfl hl.1 rfl (lv_room (Nat.le_of_ble_eq_true rfl)) dX11_addBlocks_60 ⟨(Nat.le_of_ble_eq_true rfl), (Nat.le_of_ble_eq_true rfl)⟩) hS (fun q _ h => hFc q h) hFc (fun r u t H1 locs ht hvm hw hB hz1 hk1 hS => ?_)
        obtain rfl := hw
        obtain ⟨hP1, hK1, hD1⟩ := hB
        rw [ht] at hP1
        have hK1 := va_K.moved hvm.symm hK1
        obtain ⟨hP, hD⟩ := va_join (wr := [(mq, .inr (4, [.int 0, .ref e0, .int 0]))]) (w1 := [(g0, .inr (16, [.ref mj, .ref mq, .ref mm, .ref ms, .ref mf, .ref ml, .int 1, .int 0, .int 1, .int 0, .int (-1), .int 0, .int 0, .int 0, .int 0, .int 0, .long 0]))]) hP hD [0] [1] rfl rfl (by decide) (by decide) hk1 hFc hP1 hD1
        generalize H1 = H at hP hS ⊢
        have hP : va_P (dC, dI) vwCl [(mq, .inr (4, [.int 0, .ref e0, .int 0])), (g0, .inr (16, [.ref mj, .ref mq, .ref mm, .ref ms, .ref mf, .ref ml, .int 1, .int 0, .int 1, .int 0, .int (-1), .int 0, .int 0, .int 0, .int 0, .int 0, .long 0]))] H := hP
        have hD : va_D A [(mq, .inr (4, [.int 0, .ref e0, .int 0])), (g0, .inr (16, [.ref mj, .ref mq, .ref mm, .ref ms, .ref mf, .ref ml, .int 1, .int 0, .int 1, .int 0, .int (-1), .int 0, .int 0, .int 0, .int 0, .int 0, .long 0]))] := hD
        have hK : va_K (dC, dI) vwCl [] s := hK
        refine W.widen (k := 0) (n := 0) (Nat.le_of_ble_eq_true rfl) (Nat.le_of_ble_eq_true rfl) ?_
        refine lv_if_ne (tgt := 93) hx hb dX11_addBlocks_63 (by decide) (fun _ => ?_) (fun c_9 => absurd c_9 (by decide))
        refine lv_iconst (v := 0) hx hb dX11_addBlocks_93 (by decide) ?_
        have hP9 := hP.sub (ws' := [(g0, .inr (16, [.ref mj, .ref mq, .ref mm, .ref ms, .ref mf, .ref ml, .int 1, .int 0, .int 1, .int 0, .int (-1), .int 0, .int 0, .int 0, .int 0, .int 0, .long 0]))]) [1] rfl
        have hD9 := hD.sub (ws' := [(g0, .inr (16, [.ref mj, .ref mq, .ref mm, .ref ms, .ref mf, .ref ml, .int 1, .int 0, .int 1, .int 0, .int (-1), .int 0, .int 0, .int 0, .int 0, .int 0, .long 0]))]) [1] (by decide) rfl
        have hK9 := hK.sub (tys' := []) [] rfl
        refine W.widen (k := 2) (n := 15) (Nat.le_of_ble_eq_true rfl) (Nat.le_of_ble_eq_true rfl) ?_
        exact W.iret (v := 0) hx hb hr (fun t ht hW => ⟨⟨0, 1, rfl, Or.inr (⟨rfl, rfl, (q_c_X11_addBlocks_2 hp_1 hp_3 hp_6)⟩), ⟨by rw [ht]; exact hP9, va_K.moved hW.alike hK9, hD9⟩⟩, hS.F ht⟩) hS.2.2 dX11_addBlocks_94
    · have hP := fz_keep hP hk1
      generalize H1 = H at hP hS ⊢
      have hP : va_P (dC, dI) vwCl [(g0, .inr (16, [.ref mj, .ref mq, .ref mm, .ref ms, .ref mf, .ref ml, .int 0, .int 0, .int 1, .int 0, .int (-1), .int 0, .int 0, .int 0, .int 0, .int 0, .long 0])), (mq, .inr (4, [.int 0, .ref e0, .int 0]))] H := hP
      have hD : va_D A [(g0, .inr (16, [.ref mj, .ref mq, .ref mm, .ref ms, .ref mf, .ref ml, .int 0, .int 0, .int 1, .int 0, .int (-1), .int 0, .int 0, .int 0, .int 0, .int 0, .long 0])), (mq, .inr (4, [.int 0, .ref e0, .int 0]))] := hD
      refine W.widen (k := 0) (n := 0) (Nat.le_of_ble_eq_true rfl) (Nat.le_of_ble_eq_true rfl) ?_
      refine lv_if_eq (tgt := 53) hx hb dX11_addBlocks_21 (by decide) (fun _ => ?_) (fun c_9 => absurd (by decide) c_9)
      refine lv_iconst (v := 0) hx hb dX11_addBlocks_53 (by decide) ?_
      refine lv_istore (lv' := [(6, .int 0), (0, .ref g0), (1, .int p0), (2, .int p1), (3, .int p2), (4, .int p3), (5, .int b4)]) hx hb dX11_addBlocks_54 hl (by decide) rfl (fun ls hl => ?_)
      refine lv_aload_n hx hb dX11_addBlocks_56 rfl (lv_at hl 1 rfl) ?_
      refine lv_iload hx hb dX11_addBlocks_57 (lv_at hl 0 rfl) ?_
      refine lv_iconst (v := 1) hx hb dX11_addBlocks_59 (by decide) ?_
      have hPc := hP.sub (ws' := [(g0, .inr (16, [.ref mj, .ref mq, .ref mm, .ref ms, .ref mf, .ref ml, .int 0, .int 0, .int 1, .int 0, .int (-1), .int 0, .int 0, .int 0, .int 0, .int 0, .long 0]))]) [0] rfl
      have hDc := hD.sub (ws' := [(g0, .inr (16, [.ref mj, .ref mq, .ref mm, .ref ms, .ref mf, .ref ml, .int 0, .int 0, .int 1, .int 0, .int (-1), .int 0, .int 0, .int 0, .int 0, .int 0, .long 0]))]) [0] (by decide) rfl
      have hKc := hK.sub (tys' := []) [] rfl
      have hFc := va_free (wc := [(g0, .inr (16, [.ref mj, .ref mq, .ref mm, .ref ms, .ref mf, .ref ml, .int 0, .int 0, .int 1, .int 0, .int (-1), .int 0, .int 0, .int 0, .int 0, .int 0, .long 0]))]) hD hS hA [0] rfl
      refine va_calli (va_runV (As := [.int 0, .int 1]) (rest := []) ⟨hx, hb, hml, hown, hts⟩ (c_X11_no0 l dC dI e0 g0 1 mj mq mm ms mf ml 0 H.size) (cwV 2 hts (goodIn_sub (fun _ h9 => List.mem_cons_of_mem _ (List.mem_append_right _ (List.mem_append_right _ (List.mem_append_right _ (List.mem_append_right _ (List.mem_append_right _ (List.mem_append_right _ (List.mem_append_right _ (List.mem_append_right _ h9))))))))) (by decide +kernel)) rfl rfl rfl (by decide +kernel) ⟨(Nat.le_of_ble_eq_true rfl), (Nat.le_of_ble_eq_true rfl)⟩) ⟨fz_blind, va_recv hKc hPc (ci := 16) (q0 := 0) rfl rfl, fz_pre hPc hKc hDc hAm hS hFc⟩ rfl rfl hl.1 rfl (lv_room (Nat.le_of_ble_eq_true rfl)) dX11_addBlocks_60 ⟨(Nat.le_of_ble_eq_true rfl), (Nat.le_of_ble_eq_true rfl)⟩) hS (fun q _ h => hFc q h) hFc (fun r u t H1 locs ht hvm hw hB hz1 hk1 hS => ?_)
      obtain rfl := hw
      obtain ⟨hP1, hK1, hD1⟩ := hB
      rw [ht] at hP1
      have hK1 := va_K.moved hvm.symm hK1
      obtain ⟨hP, hD⟩ := va_join (wr := [(mq, .inr (4, [.int 0, .ref e0, .int 0]))]) (w1 := [(g0, .inr (16, [.ref mj, .ref mq, .ref mm, .ref ms, .ref mf, .ref ml, .int 1, .int 0, .int 1, .int 0, .int (-1), .int 0, .int 0, .int 0, .int 0, .int 0, .long 0]))]) hP hD [0] [1] rfl rfl (by decide) (by decide) hk1 hFc hP1 hD1
      generalize H1 = H at hP hS ⊢
      have hP : va_P (dC, dI) vwCl [(mq, .inr (4, [.int 0, .ref e0, .int 0])), (g0, .inr (16, [.ref mj, .ref mq, .ref mm, .ref ms, .ref mf, .ref ml, .int 1, .int 0, .int 1, .int 0, .int (-1), .int 0, .int 0, .int 0, .int 0, .int 0, .long 0]))] H := hP
      have hD : va_D A [(mq, .inr (4, [.int 0, .ref e0, .int 0])), (g0, .inr (16, [.ref mj, .ref mq, .ref mm, .ref ms, .ref mf, .ref ml, .int 1, .int 0, .int 1, .int 0, .int (-1), .int 0, .int 0, .int 0, .int 0, .int 0, .long 0]))] := hD
      have hK : va_K (dC, dI) vwCl [] s := hK
      refine W.widen (k := 0) (n := 0) (Nat.le_of_ble_eq_true rfl) (Nat.le_of_ble_eq_true rfl) ?_
      refine lv_if_ne (tgt := 93) hx hb dX11_addBlocks_63 (by decide) (fun _ => ?_) (fun c_9 => absurd c_9 (by decide))
      refine lv_iconst (v := 0) hx hb dX11_addBlocks_93 (by decide) ?_
      have hP9 := hP.sub (ws' := [(g0, .inr (16, [.ref mj, .ref mq, .ref mm, .ref ms, .ref mf, .ref ml, .int 1, .int 0, .int 1, .int 0, .int (-1), .int 0, .int 0, .int 0, .int 0, .int 0, .long 0]))]) [1] rfl
      have hD9 := hD.sub (ws' := [(g0, .inr (16, [.ref mj, .ref mq, .ref mm, .ref ms, .ref mf, .ref ml, .int 1, .int 0, .int 1, .int 0, .int (-1), .int 0, .int 0, .int 0, .int 0, .int 0, .long 0]))]) [1] (by decide) rfl
      have hK9 := hK.sub (tys' := []) [] rfl
      refine W.widen (k := 2) (n := 15) (Nat.le_of_ble_eq_true rfl) (Nat.le_of_ble_eq_true rfl) ?_
      exact W.iret (v := 0) hx hb hr (fun t ht hW => ⟨⟨0, 1, rfl, Or.inr (⟨rfl, rfl, (q_c_X11_addBlocks_3 hp_1 hp_4)⟩), ⟨by rw [ht]; exact hP9, va_K.moved hW.alike hK9, hD9⟩⟩, hS.F ht⟩) hS.2.2 dX11_addBlocks_94
  · have hP := fz_keep hP hk1
    generalize H1 = H at hP hS ⊢
    have hP : va_P (dC, dI) vwCl [(g0, .inr (16, [.ref mj, .ref mq, .ref mm, .ref ms, .ref mf, .ref ml, .int 0, .int 0, .int 1, .int 0, .int (-1), .int 0, .int 0, .int 0, .int 0, .int 0, .long 0])), (mq, .inr (4, [.int 0, .ref e0, .int 0]))] H := hP
    have hD : va_D A [(g0, .inr (16, [.ref mj, .ref mq, .ref mm, .ref ms, .ref mf, .ref ml, .int 0, .int 0, .int 1, .int 0, .int (-1), .int 0, .int 0, .int 0, .int 0, .int 0, .long 0])), (mq, .inr (4, [.int 0, .ref e0, .int 0]))] := hD
    refine W.widen (k := 0) (n := 0) (Nat.le_of_ble_eq_true rfl) (Nat.le_of_ble_eq_true rfl) ?_
    refine lv_if_eq (tgt := 53) hx hb dX11_addBlocks_9 (by decide) (fun _ => ?_) (fun c_9 => absurd (by decide) c_9)
    refine lv_iconst (v := 0) hx hb dX11_addBlocks_53 (by decide) ?_
    refine lv_istore (lv' := [(6, .int 0), (0, .ref g0), (1, .int p0), (2, .int p1), (3, .int p2), (4, .int p3), (5, .int b4)]) hx hb dX11_addBlocks_54 hl (by decide) rfl (fun ls hl => ?_)
    refine lv_aload_n hx hb dX11_addBlocks_56 rfl (lv_at hl 1 rfl) ?_
    refine lv_iload hx hb dX11_addBlocks_57 (lv_at hl 0 rfl) ?_
    refine lv_iconst (v := 1) hx hb dX11_addBlocks_59 (by decide) ?_
    have hPc := hP.sub (ws' := [(g0, .inr (16, [.ref mj, .ref mq, .ref mm, .ref ms, .ref mf, .ref ml, .int 0, .int 0, .int 1, .int 0, .int (-1), .int 0, .int 0, .int 0, .int 0, .int 0, .long 0]))]) [0] rfl
    have hDc := hD.sub (ws' := [(g0, .inr (16, [.ref mj, .ref mq, .ref mm, .ref ms, .ref mf, .ref ml, .int 0, .int 0, .int 1, .int 0, .int (-1), .int 0, .int 0, .int 0, .int 0, .int 0, .long 0]))]) [0] (by decide) rfl
    have hKc := hK.sub (tys' := []) [] rfl
    have hFc := va_free (wc := [(g0, .inr (16, [.ref mj, .ref mq, .ref mm, .ref ms, .ref mf, .ref ml, .int 0, .int 0, .int 1, .int 0, .int (-1), .int 0, .int 0, .int 0, .int 0, .int 0, .long 0]))]) hD hS hA [0] rfl
    refine va_calli (va_runV (As := [.int 0, .int 1]) (rest := []) ⟨hx, hb, hml, hown, hts⟩ (c_X11_no0 l dC dI e0 g0 1 mj mq mm ms mf ml 0 H.size) (cwV 2 hts (goodIn_sub (fun _ h9 => List.mem_cons_of_mem _ (List.mem_append_right _ (List.mem_append_right _ (List.mem_append_right _ (List.mem_append_right _ (List.mem_append_right _ (List.mem_append_right _ (List.mem_append_right _ (List.mem_append_right _ h9))))))))) (by decide +kernel)) rfl rfl rfl (by decide +kernel) ⟨(Nat.le_of_ble_eq_true rfl), (Nat.le_of_ble_eq_true rfl)⟩) ⟨fz_blind, va_recv hKc hPc (ci := 16) (q0 := 0) rfl rfl, fz_pre hPc hKc hDc hAm hS hFc⟩ rfl rfl hl.1 rfl (lv_room (Nat.le_of_ble_eq_true rfl)) dX11_addBlocks_60 ⟨(Nat.le_of_ble_eq_true rfl), (Nat.le_of_ble_eq_true rfl)⟩) hS (fun q _ h => hFc q h) hFc (fun r u t H1 locs ht hvm hw hB hz1 hk1 hS => ?_)
    obtain rfl := hw
    obtain ⟨hP1, hK1, hD1⟩ := hB
    rw [ht] at hP1
    have hK1 := va_K.moved hvm.symm hK1
    obtain ⟨hP, hD⟩ := va_join (wr := [(mq, .inr (4, [.int 0, .ref e0, .int 0]))]) (w1 := [(g0, .inr (16, [.ref mj, .ref mq, .ref mm, .ref ms, .ref mf, .ref ml, .int 1, .int 0, .int 1, .int 0, .int (-1), .int 0, .int 0, .int 0, .int 0, .int 0, .long 0]))]) hP hD [0] [1] rfl rfl (by decide) (by decide) hk1 hFc hP1 hD1
    generalize H1 = H at hP hS ⊢
    have hP : va_P (dC, dI) vwCl [(mq, .inr (4, [.int 0, .ref e0, .int 0])), (g0, .inr (16, [.ref mj, .ref mq, .ref mm, .ref ms, .ref mf, .ref ml, .int 1, .int 0, .int 1, .int 0, .int (-1), .int 0, .int 0, .int 0, .int 0, .int 0, .long 0]))] H := hP
    have hD : va_D A [(mq, .inr (4, [.int 0, .ref e0, .int 0])), (g0, .inr (16, [.ref mj, .ref mq, .ref mm, .ref ms, .ref mf, .ref ml, .int 1, .int 0, .int 1, .int 0, .int (-1), .int 0, .int 0, .int 0, .int 0, .int 0, .long 0]))] := hD
    have hK : va_K (dC, dI) vwCl [] s := hK
    refine W.widen (k := 0) (n := 0) (Nat.le_of_ble_eq_true rfl) (Nat.le_of_ble_eq_true rfl) ?_
    refine lv_if_ne (tgt := 93) hx hb dX11_addBlocks_63 (by decide) (fun _ => ?_) (fun c_9 => absurd c_9 (by decide))
    refine lv_iconst (v := 0) hx hb dX11_addBlocks_93 (by decide) ?_
    have hP9 := hP.sub (ws' := [(g0, .inr (16, [.ref mj, .ref mq, .ref mm, .ref ms, .ref mf, .ref ml, .int 1, .int 0, .int 1, .int 0, .int (-1), .int 0, .int 0, .int 0, .int 0, .int 0, .long 0]))]) [1] rfl
    have hD9 := hD.sub (ws' := [(g0, .inr (16, [.ref mj, .ref mq, .ref mm, .ref ms, .ref mf, .ref ml, .int 1, .int 0, .int 1, .int 0, .int (-1), .int 0, .int 0, .int 0, .int 0, .int 0, .long 0]))]) [1] (by decide) rfl
    have hK9 := hK.sub (tys' := []) [] rfl
    refine W.widen (k := 2) (n := 15) (Nat.le_of_ble_eq_true rfl) (Nat.le_of_ble_eq_true rfl) ?_
    exact W.iret (v := 0) hx hb hr (fun t ht hW => ⟨⟨0, 1, rfl, Or.inr (⟨rfl, rfl, (q_c_X11_addBlocks_4 hp_2)⟩), ⟨by rw [ht]; exact hP9, va_K.moved hW.alike hK9, hD9⟩⟩, hS.F ht⟩) hS.2.2 dX11_addBlocks_94
def v_c_X11_blocks : List Cond := .code yX11_blocks cX11_blocks 2 (some .int) :: ([.fieldLink RX11 16 "VoussoirYardModel" "quarry" "Ljava/util/List;"] ++ (wsX110 ++ (va_wsF RX11 42 RJx4a65c ⟨"java/util/List", "size", "()I"⟩ yJx4a65c_size_8abf5 v_c_Jx4_size ++ (wsS RX11 57 yX11_isIn v_c_X11_isIn ++ (wsV RX11 65 RX11 yX11_no v_c_X11_no0)))))
set_option maxRecDepth 20000 in
theorem i_c_X11_blocks : ∀ w ∈ v_c_X11_blocks, w ∈ lw_tbl := List.forall_mem_cons.mpr ⟨List.mem_of_getElem? (i := 1717) (by decide +kernel), List.forall_mem_append.mpr ⟨List.forall_mem_cons.mpr ⟨List.mem_of_getElem? (i := 1325) (by decide +kernel), fun _ h => absurd h List.not_mem_nil⟩, List.forall_mem_append.mpr ⟨inX11, List.forall_mem_append.mpr ⟨(by unfold va_wsF; exact List.forall_mem_append.mpr ⟨List.forall_mem_cons.mpr ⟨List.mem_of_getElem? (i := 1402) (by decide +kernel), List.forall_mem_cons.mpr ⟨List.mem_of_getElem? (i := 1405) (by decide +kernel), List.forall_mem_cons.mpr ⟨List.mem_of_getElem? (i := 1407) (by decide +kernel), List.forall_mem_cons.mpr ⟨List.mem_of_getElem? (i := 57) (by decide +kernel), fun _ h => absurd h List.not_mem_nil⟩⟩⟩⟩, i_c_Jx4_size⟩), List.forall_mem_append.mpr ⟨(by unfold wsS; exact List.forall_mem_append.mpr ⟨List.forall_mem_cons.mpr ⟨List.mem_of_getElem? (i := 1388) (by decide +kernel), List.forall_mem_cons.mpr ⟨List.mem_of_getElem? (i := 1389) (by decide +kernel), List.forall_mem_cons.mpr ⟨List.mem_of_getElem? (i := 54) (by decide +kernel), fun _ h => absurd h List.not_mem_nil⟩⟩⟩, i_c_X11_isIn⟩), (by unfold wsV; exact List.forall_mem_append.mpr ⟨List.forall_mem_cons.mpr ⟨List.mem_of_getElem? (i := 1434) (by decide +kernel), List.forall_mem_cons.mpr ⟨List.mem_of_getElem? (i := 1436) (by decide +kernel), List.forall_mem_cons.mpr ⟨List.mem_of_getElem? (i := 25) (by decide +kernel), List.forall_mem_cons.mpr ⟨List.mem_of_getElem? (i := 54) (by decide +kernel), fun _ h => absurd h List.not_mem_nil⟩⟩⟩⟩, i_c_X11_no0⟩)⟩⟩⟩⟩⟩
set_option maxHeartbeats 4000000 in
set_option maxRecDepth 100000 in
theorem c_X11_blocks (l : Launch) (dC : Nat → ClassId) (dI : Nat → Nat → Nat) (e0 : Nat) (g0 : Nat) (p0 : Int32) (mj mq mm ms mf ml : Nat) (sz : Nat) : Met l yX11_blocks v_c_X11_blocks ({ frames := 1, cells := 0, slots := 0, locals := 25 }) (fz_P (dC, dI) e0 [(g0, .inr (16, [.ref mj, .ref mq, .ref mm, .ref ms, .ref mf, .ref ml, .int 0, .int 0, .int 1, .int 0, .int (-1), .int 0, .int 0, .int 0, .int 0, .int 0, .long 0])), (mq, .inr (4, [.int 0, .ref e0, .int 0]))] [] sz (va_A [(g0, .inr (16, [.ref mj, .ref mq, .ref mm, .ref ms, .ref mf, .ref ml, .int 0, .int 0, .int 1, .int 0, .int (-1), .int 0, .int 0, .int 0, .int 0, .int 0, .long 0])), (mq, .inr (4, [.int 0, .ref e0, .int 0]))] sz) [.ref g0, .int p0]) (va_Qi (fun (r : Int32) (u : Unit) => r = 0) (fun (u : Unit) (t : State) => va_P (dC, dI) vwCl [(g0, .inr (16, [.ref mj, .ref mq, .ref mm, .ref ms, .ref mf, .ref ml, .int 1, .int 0, .int 1, .int 0, .int (-1), .int 0, .int 0, .int 0, .int 0, .int 0, .long 0]))] t.heap ∧ va_K (dC, dI) vwCl [] t ∧ va_D (va_A [(g0, .inr (16, [.ref mj, .ref mq, .ref mm, .ref ms, .ref mf, .ref ml, .int 0, .int 0, .int 1, .int 0, .int (-1), .int 0, .int 0, .int 0, .int 0, .int 0, .long 0])), (mq, .inr (4, [.int 0, .ref e0, .int 0]))] sz) [(g0, .inr (16, [.ref mj, .ref mq, .ref mm, .ref ms, .ref mf, .ref ml, .int 1, .int 0, .int 1, .int 0, .int (-1), .int 0, .int 0, .int 0, .int 0, .int 0, .long 0]))]) (va_A [(g0, .inr (16, [.ref mj, .ref mq, .ref mm, .ref ms, .ref mf, .ref ml, .int 0, .int 0, .int 1, .int 0, .int (-1), .int 0, .int 0, .int 0, .int 0, .int 0, .long 0])), (mq, .inr (4, [.int 0, .ref e0, .int 0]))] sz)) 0 0 (va_A [(g0, .inr (16, [.ref mj, .ref mq, .ref mm, .ref ms, .ref mf, .ref ml, .int 0, .int 0, .int 1, .int 0, .int (-1), .int 0, .int 0, .int 0, .int 0, .int 0, .long 0])), (mq, .inr (4, [.int 0, .ref e0, .int 0]))] sz) := by
  refine Met.ofW (cc := cX11_blocks) (maxL := 2) (ret := (some .int)) (by decide) rfl ?_
  intro p e s m args below meth c s₁ B hml hv
  obtain ⟨rfl, hsz, hP, hK, hD0, hAm⟩ := hv
  have hx := B.exec
  have hb := B.bytes
  have hr := B.returns
  have hts := atoms_spec (ws := v_c_X11_blocks) B.pre
  have hown : s.vm.findClass RX11 = some m.cls := findClass_of_methodNamed B.named
  have hlocks := B.notSynchronized
  subst hsz
  have hD := hD0.self (sz := s.heap.size)
  generalize hAe : va_A [(g0, .inr (16, [.ref mj, .ref mq, .ref mm, .ref ms, .ref mf, .ref ml, .int 0, .int 0, .int 1, .int 0, .int (-1), .int 0, .int 0, .int 0, .int 0, .int 0, .long 0])), (mq, .inr (4, [.int 0, .ref e0, .int 0]))] s.heap.size = A at hD hAm ⊢
  have hA : ∀ q : Nat, s.heap.size ≤ q → A q := fun q h => by rw [← hAe]; exact Or.inr h
  have hS : va_S A s.heap s.heap [] := va_S.rf
  have hP : va_P (dC, dI) vwCl [(g0, .inr (16, [.ref mj, .ref mq, .ref mm, .ref ms, .ref mf, .ref ml, .int 0, .int 0, .int 1, .int 0, .int (-1), .int 0, .int 0, .int 0, .int 0, .int 0, .long 0])), (mq, .inr (4, [.int 0, .ref e0, .int 0]))] s.heap := hP
  have hl := lv_entry ([.ref g0, .int p0]) (n := 2) (Nat.le_of_ble_eq_true rfl)
  rw [lg_entry_eq]
  generalize (lg_sl ([.ref g0, .int p0]) ++ List.replicate (2 - (lg_sl ([.ref g0, .int p0])).length) Slot.unset).toArray = ls at hl ⊢
  have hl : lv_has ls 2 [(0, .ref g0), (1, .int p0)] := hl
  refine lv_aload_n hx hb dX11_blocks_0 rfl (lv_at hl 0 rfl) ?_
  refine lv_iload_n hx hb dX11_blocks_1 rfl (lv_at hl 1 rfl) ?_
  refine lv_i2l (v := p0.toInt64) hx hb dX11_blocks_2 rfl ?_
  refine lv_lconst (v := (0 : Int32).toInt64) hx hb dX11_blocks_3 (by decide) ?_
  refine lv_aload_n hx hb dX11_blocks_4 rfl (lv_at hl 0 rfl) ?_
  refine va_get (D := (dC, dI)) (ci := 16) (v := .ref mq) (C := RX11) (T := TX11) (N := 17) hx hb hts (fun _ h9 => List.mem_cons_of_mem _ (List.mem_append_right _ (List.mem_append_left _ h9))) hown hK hP 0 rfl rfl 1 (by decide) (hts _ (List.mem_cons_of_mem _ (List.mem_append_left _ (List.mem_of_getElem? (i := 0) rfl)))) (fun _ h9 => h9) rfl dX11_blocks_5 ?_
  have hPc := hP.sub (ws' := [(mq, .inr (4, [.int 0, .ref e0, .int 0]))]) [1] rfl
  have hDc := hD.sub (ws' := [(mq, .inr (4, [.int 0, .ref e0, .int 0]))]) [1] (by decide) rfl
  have hKc := hK.sub (tys' := []) [] rfl
  have hFc : ∀ q : Nat, s.heap.size ≤ q → A q := fun q h => hA q (Nat.le_trans hS.1 h)
  refine va_callFi (va_runF (As := []) (rest := [.long ((0 : Int32).toInt64), .long p0.toInt64, .ref g0]) (hK.1 4 _ rfl).2 ⟨hx, hb, hml, hown, hts⟩ (c_Jx4_size l dC dI e0 mq 0 e0 0 s.heap.size) (va_cwF 0 hts (goodIn_sub (fun _ h9 => List.mem_cons_of_mem _ (List.mem_append_right _ (List.mem_append_right _ (List.mem_append_left _ h9)))) (by decide +kernel)) rfl rfl rfl hAm.1.2.2.2.1.2.1 (by decide +kernel) ⟨(Nat.le_of_ble_eq_true rfl), (Nat.le_of_ble_eq_true rfl)⟩) ⟨fz_blind, va_recv hKc hPc (ci := 4) (q0 := 0) rfl rfl, fz_pre hPc hKc hDc hAm hS hFc⟩ rfl rfl hl.1 rfl (lv_room (Nat.le_of_ble_eq_true rfl)) dX11_blocks_8 ⟨(Nat.le_of_ble_eq_true rfl), (Nat.le_of_ble_eq_true rfl)⟩) hS (fun q _ h => hFc q h) hFc (fun r u t H1 locs ht hvm hw hB hz1 hk1 hS => ?_)
  obtain rfl := hw
  have hP := fz_keep hP hk1
  generalize H1 = H at hP hS ⊢
  have hP : va_P (dC, dI) vwCl [(g0, .inr (16, [.ref mj, .ref mq, .ref mm, .ref ms, .ref mf, .ref ml, .int 0, .int 0, .int 1, .int 0, .int (-1), .int 0, .int 0, .int 0, .int 0, .int 0, .long 0])), (mq, .inr (4, [.int 0, .ref e0, .int 0]))] H := hP
  have hD : va_D A [(g0, .inr (16, [.ref mj, .ref mq, .ref mm, .ref ms, .ref mf, .ref ml, .int 0, .int 0, .int 1, .int 0, .int (-1), .int 0, .int 0, .int 0, .int 0, .int 0, .long 0])), (mq, .inr (4, [.int 0, .ref e0, .int 0]))] := hD
  refine W.widen (k := 0) (n := 0) (Nat.le_of_ble_eq_true rfl) (Nat.le_of_ble_eq_true rfl) ?_
  refine lv_iconst (v := 1) hx hb dX11_blocks_13 (by decide) ?_
  refine lv_isub hx hb dX11_blocks_14 ?_
  refine lv_topi (fun z_9 e_9 => ?_)
  obtain rfl : (-1) = z_9 := (e_9.trans (by decide)).symm
  refine lv_i2l (v := ((-1) : Int32).toInt64) hx hb dX11_blocks_15 rfl ?_
  have hPc := hP.sub (ws' := []) [] rfl
  have hDc := hD.sub (ws' := []) [] (by decide) rfl
  have hKc := hK.sub (tys' := []) [] rfl
  have hFc : ∀ q : Nat, H.size ≤ q → A q := fun q h => hA q (Nat.le_trans hS.1 h)
  refine va_calli (va_runS (As := [.long p0.toInt64, .long ((0 : Int32).toInt64), .long (((-1) : Int32).toInt64)]) (rest := [.ref g0]) ⟨hx, hb, hml, hown, hts⟩ (c_X11_isIn l dC dI e0 p0 0 (-1) H.size) (cwS 3 hts (goodIn_sub (fun _ h9 => List.mem_cons_of_mem _ (List.mem_append_right _ (List.mem_append_right _ (List.mem_append_right _ (List.mem_append_left _ h9))))) (by decide +kernel)) rfl rfl rfl (by decide +kernel) ⟨(Nat.le_of_ble_eq_true rfl), (Nat.le_of_ble_eq_true rfl)⟩) ⟨fz_blind, fz_pre hPc hKc hDc hAm hS hFc⟩ rfl rfl hl.1 rfl (lv_room (Nat.le_of_ble_eq_true rfl)) dX11_blocks_16 ⟨(Nat.le_of_ble_eq_true rfl), (Nat.le_of_ble_eq_true rfl)⟩) hS (fun q _ h => hFc q h) hFc (fun r u t H1 locs ht hvm hw hB hz1 hk1 hS => ?_)
  rcases hw with ⟨rfl, hp_1⟩ | ⟨rfl, hp_2⟩
  · exact absurd hp_1 (fz_in_no _)
  · have hP := fz_keep hP hk1
    generalize H1 = H at hP hS ⊢
    have hP : va_P (dC, dI) vwCl [(g0, .inr (16, [.ref mj, .ref mq, .ref mm, .ref ms, .ref mf, .ref ml, .int 0, .int 0, .int 1, .int 0, .int (-1), .int 0, .int 0, .int 0, .int 0, .int 0, .long 0])), (mq, .inr (4, [.int 0, .ref e0, .int 0]))] H := hP
    have hD : va_D A [(g0, .inr (16, [.ref mj, .ref mq, .ref mm, .ref ms, .ref mf, .ref ml, .int 0, .int 0, .int 1, .int 0, .int (-1), .int 0, .int 0, .int 0, .int 0, .int 0, .long 0])), (mq, .inr (4, [.int 0, .ref e0, .int 0]))] := hD
    refine W.widen (k := 0) (n := 0) (Nat.le_of_ble_eq_true rfl) (Nat.le_of_ble_eq_true rfl) ?_
    refine lv_iconst (v := 1) hx hb dX11_blocks_19 (by decide) ?_
    have hPc := hP.sub (ws' := [(g0, .inr (16, [.ref mj, .ref mq, .ref mm, .ref ms, .ref mf, .ref ml, .int 0, .int 0, .int 1, .int 0, .int (-1), .int 0, .int 0, .int 0, .int 0, .int 0, .long 0]))]) [0] rfl
    have hDc := hD.sub (ws' := [(g0, .inr (16, [.ref mj, .ref mq, .ref mm, .ref ms, .ref mf, .ref ml, .int 0, .int 0, .int 1, .int 0, .int (-1), .int 0, .int 0, .int 0, .int 0, .int 0, .long 0]))]) [0] (by decide) rfl
    have hKc := hK.sub (tys' := []) [] rfl
    have hFc := va_free (wc := [(g0, .inr (16, [.ref mj, .ref mq, .ref mm, .ref ms, .ref mf, .ref ml, .int 0, .int 0, .int 1, .int 0, .int (-1), .int 0, .int 0, .int 0, .int 0, .int 0, .long 0]))]) hD hS hA [0] rfl
    refine va_calli (va_runV (As := [.int 0, .int 1]) (rest := []) ⟨hx, hb, hml, hown, hts⟩ (c_X11_no0 l dC dI e0 g0 1 mj mq mm ms mf ml 0 H.size) (cwV 2 hts (goodIn_sub (fun _ h9 => List.mem_cons_of_mem _ (List.mem_append_right _ (List.mem_append_right _ (List.mem_append_right _ (List.mem_append_right _ h9))))) (by decide +kernel)) rfl rfl rfl (by decide +kernel) ⟨(Nat.le_of_ble_eq_true rfl), (Nat.le_of_ble_eq_true rfl)⟩) ⟨fz_blind, va_recv hKc hPc (ci := 16) (q0 := 0) rfl rfl, fz_pre hPc hKc hDc hAm hS hFc⟩ rfl rfl hl.1 rfl (lv_room (Nat.le_of_ble_eq_true rfl)) dX11_blocks_20 ⟨(Nat.le_of_ble_eq_true rfl), (Nat.le_of_ble_eq_true rfl)⟩) hS (fun q _ h => hFc q h) hFc (fun r u t H1 locs ht hvm hw hB hz1 hk1 hS => ?_)
    obtain rfl := hw
    obtain ⟨hP1, hK1, hD1⟩ := hB
    rw [ht] at hP1
    have hK1 := va_K.moved hvm.symm hK1
    obtain ⟨hP, hD⟩ := va_join (wr := [(mq, .inr (4, [.int 0, .ref e0, .int 0]))]) (w1 := [(g0, .inr (16, [.ref mj, .ref mq, .ref mm, .ref ms, .ref mf, .ref ml, .int 1, .int 0, .int 1, .int 0, .int (-1), .int 0, .int 0, .int 0, .int 0, .int 0, .long 0]))]) hP hD [0] [1] rfl rfl (by decide) (by decide) hk1 hFc hP1 hD1
    generalize H1 = H at hP hS ⊢
    have hP : va_P (dC, dI) vwCl [(mq, .inr (4, [.int 0, .ref e0, .int 0])), (g0, .inr (16, [.ref mj, .ref mq, .ref mm, .ref ms, .ref mf, .ref ml, .int 1, .int 0, .int 1, .int 0, .int (-1), .int 0, .int 0, .int 0, .int 0, .int 0, .long 0]))] H := hP
    have hD : va_D A [(mq, .inr (4, [.int 0, .ref e0, .int 0])), (g0, .inr (16, [.ref mj, .ref mq, .ref mm, .ref ms, .ref mf, .ref ml, .int 1, .int 0, .int 1, .int 0, .int (-1), .int 0, .int 0, .int 0, .int 0, .int 0, .long 0]))] := hD
    have hK : va_K (dC, dI) vwCl [] s := hK
    refine W.widen (k := 0) (n := 0) (Nat.le_of_ble_eq_true rfl) (Nat.le_of_ble_eq_true rfl) ?_
    refine lv_if_eq (tgt := 30) hx hb dX11_blocks_23 (by decide) (fun c_9 => absurd c_9 (by decide)) (fun _ => ?_)
    refine lv_iconst (v := 0) hx hb dX11_blocks_26 (by decide) ?_
    refine lv_goto (tgt := 46) hx hb dX11_blocks_27 (by decide) ?_
    have hP9 := hP.sub (ws' := [(g0, .inr (16, [.ref mj, .ref mq, .ref mm, .ref ms, .ref mf, .ref ml, .int 1, .int 0, .int 1, .int 0, .int (-1), .int 0, .int 0, .int 0, .int 0, .int 0, .long 0]))]) [1] rfl
    have hD9 := hD.sub (ws' := [(g0, .inr (16, [.ref mj, .ref mq, .ref mm, .ref ms, .ref mf, .ref ml, .int 1, .int 0, .int 1, .int 0, .int (-1), .int 0, .int 0, .int 0, .int 0, .int 0, .long 0]))]) [1] (by decide) rfl
    have hK9 := hK.sub (tys' := []) [] rfl
    refine W.widen (k := 0) (n := 0) (Nat.le_of_ble_eq_true rfl) (Nat.le_of_ble_eq_true rfl) ?_
    exact W.iret (v := 0) hx hb hr (fun t ht hW => ⟨⟨0, (), rfl, rfl, ⟨by rw [ht]; exact hP9, va_K.moved hW.alike hK9, hD9⟩⟩, hS.F ht⟩) hS.2.2 dX11_blocks_46
def v_c_X11_addMason : List Cond := .code yX11_addMason cX11_addMason 3 (some .int) :: ([.constantLong RX11 194 99, .constantLong RX11 220 9, .fieldLink RX11 19 "VoussoirYardModel" "masons" "Ljava/util/List;", .classLink RX11 222 RX9, .instantiable RX9 4, .initialized RX9, .methodLink RX11 224 yX9_init, .instanceMethod yX9_init] ++ (wsS RX11 57 yX11_isIn v_c_X11_isIn ++ (wsV RX11 65 RX11 yX11_no v_c_X11_no1 ++ (wsX110 ++ (va_wsF RX11 42 RJx4a65c ⟨"java/util/List", "size", "()I"⟩ yJx4a65c_size_8abf5 v_c_Jx4_size ++ (wsX90 ++ (v_c_X9_init ++ (va_wsF RX11 95 RJx4a65c ⟨"java/util/List", "add", "(Ljava/lang/Object;)Z"⟩ yJx4a65c_add_9ea2d v_c_Jx4_addM ++ (wsV RX11 65 RX11 yX11_no v_c_X11_no0)))))))))
set_option maxRecDepth 20000 in
theorem i_c_X11_addMason : ∀ w ∈ v_c_X11_addMason, w ∈ lw_tbl := List.forall_mem_cons.mpr ⟨List.mem_of_getElem? (i := 1729) (by decide +kernel), List.forall_mem_append.mpr ⟨List.forall_mem_cons.mpr ⟨List.mem_of_getElem? (i := 1685) (by decide +kernel), List.forall_mem_cons.mpr ⟨List.mem_of_getElem? (i := 1730) (by decide +kernel), List.forall_mem_cons.mpr ⟨List.mem_of_getElem? (i := 1326) (by decide +kernel), List.forall_mem_cons.mpr ⟨List.mem_of_getElem? (i := 1731) (by decide +kernel), List.forall_mem_cons.mpr ⟨List.mem_of_getElem? (i := 1732) (by decide +kernel), List.forall_mem_cons.mpr ⟨List.mem_of_getElem? (i := 78) (by decide +kernel), List.forall_mem_cons.mpr ⟨List.mem_of_getElem? (i := 1733) (by decide +kernel), List.forall_mem_cons.mpr ⟨List.mem_of_getElem? (i := 1734) (by decide +kernel), fun _ h => absurd h List.not_mem_nil⟩⟩⟩⟩⟩⟩⟩⟩, List.forall_mem_append.mpr ⟨(by unfold wsS; exact List.forall_mem_append.mpr ⟨List.forall_mem_cons.mpr ⟨List.mem_of_getElem? (i := 1388) (by decide +kernel), List.forall_mem_cons.mpr ⟨List.mem_of_getElem? (i := 1389) (by decide +kernel), List.forall_mem_cons.mpr ⟨List.mem_of_getElem? (i := 54) (by decide +kernel), fun _ h => absurd h List.not_mem_nil⟩⟩⟩, i_c_X11_isIn⟩), List.forall_mem_append.mpr ⟨(by unfold wsV; exact List.forall_mem_append.mpr ⟨List.forall_mem_cons.mpr ⟨List.mem_of_getElem? (i := 1434) (by decide +kernel), List.forall_mem_cons.mpr ⟨List.mem_of_getElem? (i := 1436) (by decide +kernel), List.forall_mem_cons.mpr ⟨List.mem_of_getElem? (i := 25) (by decide +kernel), List.forall_mem_cons.mpr ⟨List.mem_of_getElem? (i := 54) (by decide +kernel), fun _ h => absurd h List.not_mem_nil⟩⟩⟩⟩, i_c_X11_no1⟩), List.forall_mem_append.mpr ⟨inX11, List.forall_mem_append.mpr ⟨(by unfold va_wsF; exact List.forall_mem_append.mpr ⟨List.forall_mem_cons.mpr ⟨List.mem_of_getElem? (i := 1402) (by decide +kernel), List.forall_mem_cons.mpr ⟨List.mem_of_getElem? (i := 1405) (by decide +kernel), List.forall_mem_cons.mpr ⟨List.mem_of_getElem? (i := 1407) (by decide +kernel), List.forall_mem_cons.mpr ⟨List.mem_of_getElem? (i := 57) (by decide +kernel), fun _ h => absurd h List.not_mem_nil⟩⟩⟩⟩, i_c_Jx4_size⟩), List.forall_mem_append.mpr ⟨inX9, List.forall_mem_append.mpr ⟨i_c_X9_init, List.forall_mem_append.mpr ⟨(by unfold va_wsF; exact List.forall_mem_append.mpr ⟨List.forall_mem_cons.mpr ⟨List.mem_of_getElem? (i := 1443) (by decide +kernel), List.forall_mem_cons.mpr ⟨List.mem_of_getElem? (i := 1446) (by decide +kernel), List.forall_mem_cons.mpr ⟨List.mem_of_getElem? (i := 1448) (by decide +kernel), List.forall_mem_cons.mpr ⟨List.mem_of_getElem? (i := 57) (by decide +kernel), fun _ h => absurd h List.not_mem_nil⟩⟩⟩⟩, i_c_Jx4_addM⟩), (by unfold wsV; exact List.forall_mem_append.mpr ⟨List.forall_mem_cons.mpr ⟨List.mem_of_getElem? (i := 1434) (by decide +kernel), List.forall_mem_cons.mpr ⟨List.mem_of_getElem? (i := 1436) (by decide +kernel), List.forall_mem_cons.mpr ⟨List.mem_of_getElem? (i := 25) (by decide +kernel), List.forall_mem_cons.mpr ⟨List.mem_of_getElem? (i := 54) (by decide +kernel), fun _ h => absurd h List.not_mem_nil⟩⟩⟩⟩, i_c_X11_no0⟩)⟩⟩⟩⟩⟩⟩⟩⟩⟩
theorem q_c_X11_addMason_0 {p0 p1 : Int32} (hp_1 : fz_in p0 1 99) (hp_3 : fz_in p1 0 9) : (fz_in p0 1 99 ∧ fz_in p1 0 9) := by
  first | assumption | (simp_all [fz_in, fz_v]; done) | (simp only [fz_in, fz_v] at *; grind)
theorem q_c_X11_addMason_1 {p0 p1 : Int32} (hp_1 : fz_in p0 1 99) (hp_4 : ¬ fz_in p1 0 9) : ¬ (fz_in p0 1 99 ∧ fz_in p1 0 9) := by
  first | assumption | (simp_all [fz_in, fz_v]; done) | (simp only [fz_in, fz_v] at *; grind)
theorem q_c_X11_addMason_2 {p0 p1 : Int32} (hp_2 : ¬ fz_in p0 1 99) : ¬ (fz_in p0 1 99 ∧ fz_in p1 0 9) := by
  first | assumption | (simp_all [fz_in, fz_v]; done) | (simp only [fz_in, fz_v] at *; grind)
set_option maxHeartbeats 4000000 in
set_option maxRecDepth 100000 in
theorem c_X11_addMason (l : Launch) (dC : Nat → ClassId) (dI : Nat → Nat → Nat) (e0 : Nat) (g0 : Nat) (p0 p1 : Int32) (mj mq mm ms mf ml : Nat) (sz : Nat) : Met l yX11_addMason v_c_X11_addMason ({ frames := 5, cells := 2, slots := 14, locals := 117 }) (fz_P (dC, dI) e0 [(g0, .inr (16, [.ref mj, .ref mq, .ref mm, .ref ms, .ref mf, .ref ml, .int 0, .int 0, .int 1, .int 0, .int (-1), .int 0, .int 0, .int 0, .int 0, .int 0, .long 0])), (mm, .inr (4, [.int 0, .ref e0, .int 0]))] [] sz (va_A [(g0, .inr (16, [.ref mj, .ref mq, .ref mm, .ref ms, .ref mf, .ref ml, .int 0, .int 0, .int 1, .int 0, .int (-1), .int 0, .int 0, .int 0, .int 0, .int 0, .long 0])), (mm, .inr (4, [.int 0, .ref e0, .int 0]))] sz) [.ref g0, .int p0, .int p1]) (va_Qi (fun (r : Int32) (u : Int32) => (r = 0 ∧ u = 0 ∧ ((fz_in p0 1 99 ∧ fz_in p1 0 9))) ∨ (r = 0 ∧ u = 1 ∧ (¬ (fz_in p0 1 99 ∧ fz_in p1 0 9)))) (fun (u : Int32) (t : State) => va_P (dC, dI) vwCl [(g0, .inr (16, [.ref mj, .ref mq, .ref mm, .ref ms, .ref mf, .ref ml, .int u, .int 0, .int 1, .int 0, .int (-1), .int 0, .int 0, .int 0, .int 0, .int 0, .long 0]))] t.heap ∧ va_K (dC, dI) vwCl [] t ∧ va_D (va_A [(g0, .inr (16, [.ref mj, .ref mq, .ref mm, .ref ms, .ref mf, .ref ml, .int 0, .int 0, .int 1, .int 0, .int (-1), .int 0, .int 0, .int 0, .int 0, .int 0, .long 0])), (mm, .inr (4, [.int 0, .ref e0, .int 0]))] sz) [(g0, .inr (16, [.ref mj, .ref mq, .ref mm, .ref ms, .ref mf, .ref ml, .int u, .int 0, .int 1, .int 0, .int (-1), .int 0, .int 0, .int 0, .int 0, .int 0, .long 0]))]) (va_A [(g0, .inr (16, [.ref mj, .ref mq, .ref mm, .ref ms, .ref mf, .ref ml, .int 0, .int 0, .int 1, .int 0, .int (-1), .int 0, .int 0, .int 0, .int 0, .int 0, .long 0])), (mm, .inr (4, [.int 0, .ref e0, .int 0]))] sz)) 2 14 (va_A [(g0, .inr (16, [.ref mj, .ref mq, .ref mm, .ref ms, .ref mf, .ref ml, .int 0, .int 0, .int 1, .int 0, .int (-1), .int 0, .int 0, .int 0, .int 0, .int 0, .long 0])), (mm, .inr (4, [.int 0, .ref e0, .int 0]))] sz) := by
  refine Met.ofW (cc := cX11_addMason) (maxL := 3) (ret := (some .int)) (by decide) rfl ?_
  intro p e s m args below meth c s₁ B hml hv
  obtain ⟨rfl, hsz, hP, hK, hD0, hAm⟩ := hv
  have hx := B.exec
  have hb := B.bytes
  have hr := B.returns
  have hts := atoms_spec (ws := v_c_X11_addMason) B.pre
  have hown : s.vm.findClass RX11 = some m.cls := findClass_of_methodNamed B.named
  have hlocks := B.notSynchronized
  subst hsz
  have hD := hD0.self (sz := s.heap.size)
  generalize hAe : va_A [(g0, .inr (16, [.ref mj, .ref mq, .ref mm, .ref ms, .ref mf, .ref ml, .int 0, .int 0, .int 1, .int 0, .int (-1), .int 0, .int 0, .int 0, .int 0, .int 0, .long 0])), (mm, .inr (4, [.int 0, .ref e0, .int 0]))] s.heap.size = A at hD hAm ⊢
  have hA : ∀ q : Nat, s.heap.size ≤ q → A q := fun q h => by rw [← hAe]; exact Or.inr h
  have hS : va_S A s.heap s.heap [] := va_S.rf
  have hP : va_P (dC, dI) vwCl [(g0, .inr (16, [.ref mj, .ref mq, .ref mm, .ref ms, .ref mf, .ref ml, .int 0, .int 0, .int 1, .int 0, .int (-1), .int 0, .int 0, .int 0, .int 0, .int 0, .long 0])), (mm, .inr (4, [.int 0, .ref e0, .int 0]))] s.heap := hP
  have hl := lv_entry ([.ref g0, .int p0, .int p1]) (n := 3) (Nat.le_of_ble_eq_true rfl)
  rw [lg_entry_eq]
  generalize (lg_sl ([.ref g0, .int p0, .int p1]) ++ List.replicate (3 - (lg_sl ([.ref g0, .int p0, .int p1])).length) Slot.unset).toArray = ls at hl ⊢
  have hl : lv_has ls 3 [(0, .ref g0), (1, .int p0), (2, .int p1)] := hl
  refine lv_aload_n hx hb dX11_addMason_0 rfl (lv_at hl 0 rfl) ?_
  refine lv_iload_n hx hb dX11_addMason_1 rfl (lv_at hl 1 rfl) ?_
  refine lv_i2l (v := p0.toInt64) hx hb dX11_addMason_2 rfl ?_
  refine lv_lconst (v := (1 : Int32).toInt64) hx hb dX11_addMason_3 (by decide) ?_
  refine lv_ldc2 (v := 99) hx hb hown (hts _ (List.mem_cons_of_mem _ (List.mem_append_left _ (List.mem_of_getElem? (i := 0) rfl)))) dX11_addMason_4 ?_
  refine lv_topl (fun z_9 e_9 => ?_)
  obtain rfl : (99 : Int32).toInt64 = z_9 := (e_9.trans (by decide)).symm
  have hPc := hP.sub (ws' := []) [] rfl
  have hDc := hD.sub (ws' := []) [] (by decide) rfl
  have hKc := hK.sub (tys' := []) [] rfl
  have hFc : ∀ q : Nat, s.heap.size ≤ q → A q := fun q h => hA q (Nat.le_trans hS.1 h)
  refine va_calli (va_runS (As := [.long p0.toInt64, .long ((1 : Int32).toInt64), .long ((99 : Int32).toInt64)]) (rest := [.ref g0]) ⟨hx, hb, hml, hown, hts⟩ (c_X11_isIn l dC dI e0 p0 1 99 s.heap.size) (cwS 3 hts (goodIn_sub (fun _ h9 => List.mem_cons_of_mem _ (List.mem_append_right _ (List.mem_append_left _ h9))) (by decide +kernel)) rfl rfl rfl (by decide +kernel) ⟨(Nat.le_of_ble_eq_true rfl), (Nat.le_of_ble_eq_true rfl)⟩) ⟨fz_blind, fz_pre hPc hKc hDc hAm hS hFc⟩ rfl rfl hl.1 rfl (lv_room (Nat.le_of_ble_eq_true rfl)) dX11_addMason_7 ⟨(Nat.le_of_ble_eq_true rfl), (Nat.le_of_ble_eq_true rfl)⟩) hS (fun q _ h => hFc q h) hFc (fun r u t H1 locs ht hvm hw hB hz1 hk1 hS => ?_)
  rcases hw with ⟨rfl, hp_1⟩ | ⟨rfl, hp_2⟩
  · have hP := fz_keep hP hk1
    generalize H1 = H at hP hS ⊢
    have hP : va_P (dC, dI) vwCl [(g0, .inr (16, [.ref mj, .ref mq, .ref mm, .ref ms, .ref mf, .ref ml, .int 0, .int 0, .int 1, .int 0, .int (-1), .int 0, .int 0, .int 0, .int 0, .int 0, .long 0])), (mm, .inr (4, [.int 0, .ref e0, .int 0]))] H := hP
    have hD : va_D A [(g0, .inr (16, [.ref mj, .ref mq, .ref mm, .ref ms, .ref mf, .ref ml, .int 0, .int 0, .int 1, .int 0, .int (-1), .int 0, .int 0, .int 0, .int 0, .int 0, .long 0])), (mm, .inr (4, [.int 0, .ref e0, .int 0]))] := hD
    refine W.widen (k := 0) (n := 0) (Nat.le_of_ble_eq_true rfl) (Nat.le_of_ble_eq_true rfl) ?_
    refine lv_if_eq (tgt := 29) hx hb dX11_addMason_10 (by decide) (fun c_9 => absurd c_9 (by decide)) (fun _ => ?_)
    refine lv_iload_n hx hb dX11_addMason_13 rfl (lv_at hl 2 rfl) ?_
    refine lv_i2l (v := p1.toInt64) hx hb dX11_addMason_14 rfl ?_
    refine lv_lconst (v := (0 : Int32).toInt64) hx hb dX11_addMason_15 (by decide) ?_
    refine lv_ldc2 (v := 9) hx hb hown (hts _ (List.mem_cons_of_mem _ (List.mem_append_left _ (List.mem_of_getElem? (i := 1) rfl)))) dX11_addMason_16 ?_
    refine lv_topl (fun z_9 e_9 => ?_)
    obtain rfl : (9 : Int32).toInt64 = z_9 := (e_9.trans (by decide)).symm
    have hPc := hP.sub (ws' := []) [] rfl
    have hDc := hD.sub (ws' := []) [] (by decide) rfl
    have hKc := hK.sub (tys' := []) [] rfl
    have hFc : ∀ q : Nat, H.size ≤ q → A q := fun q h => hA q (Nat.le_trans hS.1 h)
    refine va_calli (va_runS (As := [.long p1.toInt64, .long ((0 : Int32).toInt64), .long ((9 : Int32).toInt64)]) (rest := [.ref g0]) ⟨hx, hb, hml, hown, hts⟩ (c_X11_isIn l dC dI e0 p1 0 9 H.size) (cwS 3 hts (goodIn_sub (fun _ h9 => List.mem_cons_of_mem _ (List.mem_append_right _ (List.mem_append_left _ h9))) (by decide +kernel)) rfl rfl rfl (by decide +kernel) ⟨(Nat.le_of_ble_eq_true rfl), (Nat.le_of_ble_eq_true rfl)⟩) ⟨fz_blind, fz_pre hPc hKc hDc hAm hS hFc⟩ rfl rfl hl.1 rfl (lv_room (Nat.le_of_ble_eq_true rfl)) dX11_addMason_19 ⟨(Nat.le_of_ble_eq_true rfl), (Nat.le_of_ble_eq_true rfl)⟩) hS (fun q _ h => hFc q h) hFc (fun r u t H1 locs ht hvm hw hB hz1 hk1 hS => ?_)
    rcases hw with ⟨rfl, hp_3⟩ | ⟨rfl, hp_4⟩
    · have hP := fz_keep hP hk1
      generalize H1 = H at hP hS ⊢
      have hP : va_P (dC, dI) vwCl [(g0, .inr (16, [.ref mj, .ref mq, .ref mm, .ref ms, .ref mf, .ref ml, .int 0, .int 0, .int 1, .int 0, .int (-1), .int 0, .int 0, .int 0, .int 0, .int 0, .long 0])), (mm, .inr (4, [.int 0, .ref e0, .int 0]))] H := hP
      have hD : va_D A [(g0, .inr (16, [.ref mj, .ref mq, .ref mm, .ref ms, .ref mf, .ref ml, .int 0, .int 0, .int 1, .int 0, .int (-1), .int 0, .int 0, .int 0, .int 0, .int 0, .long 0])), (mm, .inr (4, [.int 0, .ref e0, .int 0]))] := hD
      refine W.widen (k := 0) (n := 0) (Nat.le_of_ble_eq_true rfl) (Nat.le_of_ble_eq_true rfl) ?_
      refine lv_if_eq (tgt := 29) hx hb dX11_addMason_22 (by decide) (fun c_9 => absurd c_9 (by decide)) (fun _ => ?_)
      refine lv_iconst (v := 1) hx hb dX11_addMason_25 (by decide) ?_
      refine lv_goto (tgt := 30) hx hb dX11_addMason_26 (by decide) ?_
      refine lv_iconst (v := 1) hx hb dX11_addMason_30 (by decide) ?_
      have hPc := hP.sub (ws' := [(g0, .inr (16, [.ref mj, .ref mq, .ref mm, .ref ms, .ref mf, .ref ml, .int 0, .int 0, .int 1, .int 0, .int (-1), .int 0, .int 0, .int 0, .int 0, .int 0, .long 0]))]) [0] rfl
      have hDc := hD.sub (ws' := [(g0, .inr (16, [.ref mj, .ref mq, .ref mm, .ref ms, .ref mf, .ref ml, .int 0, .int 0, .int 1, .int 0, .int (-1), .int 0, .int 0, .int 0, .int 0, .int 0, .long 0]))]) [0] (by decide) rfl
      have hKc := hK.sub (tys' := []) [] rfl
      have hFc := va_free (wc := [(g0, .inr (16, [.ref mj, .ref mq, .ref mm, .ref ms, .ref mf, .ref ml, .int 0, .int 0, .int 1, .int 0, .int (-1), .int 0, .int 0, .int 0, .int 0, .int 0, .long 0]))]) hD hS hA [0] rfl
      refine va_calli (va_runV (As := [.int 1, .int 1]) (rest := []) ⟨hx, hb, hml, hown, hts⟩ (c_X11_no1 l dC dI e0 g0 1 mj mq mm ms mf ml 0 H.size) (cwV 2 hts (goodIn_sub (fun _ h9 => List.mem_cons_of_mem _ (List.mem_append_right _ (List.mem_append_right _ (List.mem_append_left _ h9)))) (by decide +kernel)) rfl rfl rfl (by decide +kernel) ⟨(Nat.le_of_ble_eq_true rfl), (Nat.le_of_ble_eq_true rfl)⟩) ⟨fz_blind, va_recv hKc hPc (ci := 16) (q0 := 0) rfl rfl, fz_pre hPc hKc hDc hAm hS hFc⟩ rfl rfl hl.1 rfl (lv_room (Nat.le_of_ble_eq_true rfl)) dX11_addMason_31 ⟨(Nat.le_of_ble_eq_true rfl), (Nat.le_of_ble_eq_true rfl)⟩) hS (fun q _ h => hFc q h) hFc (fun r u t H1 locs ht hvm hw hB hz1 hk1 hS => ?_)
      obtain rfl := hw
      obtain ⟨hP1, hK1, hD1⟩ := hB
      rw [ht] at hP1
      have hK1 := va_K.moved hvm.symm hK1
      obtain ⟨hP, hD⟩ := va_join (wr := [(mm, .inr (4, [.int 0, .ref e0, .int 0]))]) (w1 := [(g0, .inr (16, [.ref mj, .ref mq, .ref mm, .ref ms, .ref mf, .ref ml, .int 0, .int 0, .int 1, .int 0, .int (-1), .int 0, .int 0, .int 0, .int 0, .int 0, .long 0]))]) hP hD [0] [1] rfl rfl (by decide) (by decide) hk1 hFc hP1 hD1
      generalize H1 = H at hP hS ⊢
      have hP : va_P (dC, dI) vwCl [(mm, .inr (4, [.int 0, .ref e0, .int 0])), (g0, .inr (16, [.ref mj, .ref mq, .ref mm, .ref ms, .ref mf, .ref ml, .int 0, .int 0, .int 1, .int 0, .int (-1), .int 0, .int 0, .int 0, .int 0, .int 0, .long 0]))] H := hP
      have hD : va_D A [(mm, .inr (4, [.int 0, .ref e0, .int 0])), (g0, .inr (16, [.ref mj, .ref mq, .ref mm, .ref ms, .ref mf, .ref ml, .int 0, .int 0, .int 1, .int 0, .int (-1), .int 0, .int 0, .int 0, .int 0, .int 0, .long 0]))] := hD
      have hK : va_K (dC, dI) vwCl [] s := hK
      refine W.widen (k := 0) (n := 0) (Nat.le_of_ble_eq_true rfl) (Nat.le_of_ble_eq_true rfl) ?_
      refine lv_if_ne (tgt := 63) hx hb dX11_addMason_34 (by decide) (fun c_9 => absurd (by decide) c_9) (fun _ => ?_)
      refine lv_aload_n hx hb dX11_addMason_37 rfl (lv_at hl 0 rfl) ?_
      refine lv_aload_n hx hb dX11_addMason_38 rfl (lv_at hl 0 rfl) ?_
      refine va_get (D := (dC, dI)) (ci := 16) (v := .ref mm) (C := RX11) (T := TX11) (N := 17) hx hb hts (fun _ h9 => List.mem_cons_of_mem _ (List.mem_append_right _ (List.mem_append_right _ (List.mem_append_right _ (List.mem_append_left _ h9))))) hown hK hP 1 rfl rfl 2 (by decide) (hts _ (List.mem_cons_of_mem _ (List.mem_append_left _ (List.mem_of_getElem? (i := 2) rfl)))) (fun _ h9 => h9) rfl dX11_addMason_39 ?_
      have hPc := hP.sub (ws' := [(mm, .inr (4, [.int 0, .ref e0, .int 0]))]) [0] rfl
      have hDc := hD.sub (ws' := [(mm, .inr (4, [.int 0, .ref e0, .int 0]))]) [0] (by decide) rfl
      have hKc := hK.sub (tys' := []) [] rfl
      have hFc : ∀ q : Nat, H.size ≤ q → A q := fun q h => hA q (Nat.le_trans hS.1 h)
      refine va_callFi (va_runF (As := []) (rest := [.ref g0]) (hK.1 4 _ rfl).2 ⟨hx, hb, hml, hown, hts⟩ (c_Jx4_size l dC dI e0 mm 0 e0 0 H.size) (va_cwF 0 hts (goodIn_sub (fun _ h9 => List.mem_cons_of_mem _ (List.mem_append_right _ (List.mem_append_right _ (List.mem_append_right _ (List.mem_append_right _ (List.mem_append_left _ h9)))))) (by decide +kernel)) rfl rfl rfl hAm.1.2.2.2.1.2.1 (by decide +kernel) ⟨(Nat.le_of_ble_eq_true rfl), (Nat.le_of_ble_eq_true rfl)⟩) ⟨fz_blind, va_recv hKc hPc (ci := 4) (q0 := 0) rfl rfl, fz_pre hPc hKc hDc hAm hS hFc⟩ rfl rfl hl.1 rfl (lv_room (Nat.le_of_ble_eq_true rfl)) dX11_addMason_42 ⟨(Nat.le_of_ble_eq_true rfl), (Nat.le_of_ble_eq_true rfl)⟩) hS (fun q _ h => hFc q h) hFc (fun r u t H1 locs ht hvm hw hB hz1 hk1 hS => ?_)
      obtain rfl := hw
      have hP := fz_keep hP hk1
      generalize H1 = H at hP hS ⊢
      have hP : va_P (dC, dI) vwCl [(mm, .inr (4, [.int 0, .ref e0, .int 0])), (g0, .inr (16, [.ref mj, .ref mq, .ref mm, .ref ms, .ref mf, .ref ml, .int 0, .int 0, .int 1, .int 0, .int (-1), .int 0, .int 0, .int 0, .int 0, .int 0, .long 0]))] H := hP
      have hD : va_D A [(mm, .inr (4, [.int 0, .ref e0, .int 0])), (g0, .inr (16, [.ref mj, .ref mq, .ref mm, .ref ms, .ref mf, .ref ml, .int 0, .int 0, .int 1, .int 0, .int (-1), .int 0, .int 0, .int 0, .int 0, .int 0, .long 0]))] := hD
      refine W.widen (k := 0) (n := 0) (Nat.le_of_ble_eq_true rfl) (Nat.le_of_ble_eq_true rfl) ?_
      refine lv_iconst (v := 4) hx hb dX11_addMason_47 (by decide) ?_
      refine lv_icmp_ge (tgt := 55) hx hb dX11_addMason_48 (by decide) (fun c_9 => absurd c_9 (by decide)) (fun _ => ?_)
      refine lv_iconst (v := 1) hx hb dX11_addMason_51 (by decide) ?_
      refine lv_goto (tgt := 56) hx hb dX11_addMason_52 (by decide) ?_
      refine lv_iconst (v := 2) hx hb dX11_addMason_56 (by decide) ?_
      have hPc := hP.sub (ws' := [(g0, .inr (16, [.ref mj, .ref mq, .ref mm, .ref ms, .ref mf, .ref ml, .int 0, .int 0, .int 1, .int 0, .int (-1), .int 0, .int 0, .int 0, .int 0, .int 0, .long 0]))]) [1] rfl
      have hDc := hD.sub (ws' := [(g0, .inr (16, [.ref mj, .ref mq, .ref mm, .ref ms, .ref mf, .ref ml, .int 0, .int 0, .int 1, .int 0, .int (-1), .int 0, .int 0, .int 0, .int 0, .int 0, .long 0]))]) [1] (by decide) rfl
      have hKc := hK.sub (tys' := []) [] rfl
      have hFc := va_free (wc := [(g0, .inr (16, [.ref mj, .ref mq, .ref mm, .ref ms, .ref mf, .ref ml, .int 0, .int 0, .int 1, .int 0, .int (-1), .int 0, .int 0, .int 0, .int 0, .int 0, .long 0]))]) hD hS hA [1] rfl
      refine va_calli (va_runV (As := [.int 1, .int 2]) (rest := []) ⟨hx, hb, hml, hown, hts⟩ (c_X11_no1 l dC dI e0 g0 2 mj mq mm ms mf ml 0 H.size) (cwV 2 hts (goodIn_sub (fun _ h9 => List.mem_cons_of_mem _ (List.mem_append_right _ (List.mem_append_right _ (List.mem_append_left _ h9)))) (by decide +kernel)) rfl rfl rfl (by decide +kernel) ⟨(Nat.le_of_ble_eq_true rfl), (Nat.le_of_ble_eq_true rfl)⟩) ⟨fz_blind, va_recv hKc hPc (ci := 16) (q0 := 0) rfl rfl, fz_pre hPc hKc hDc hAm hS hFc⟩ rfl rfl hl.1 rfl (lv_room (Nat.le_of_ble_eq_true rfl)) dX11_addMason_57 ⟨(Nat.le_of_ble_eq_true rfl), (Nat.le_of_ble_eq_true rfl)⟩) hS (fun q _ h => hFc q h) hFc (fun r u t H1 locs ht hvm hw hB hz1 hk1 hS => ?_)
      obtain rfl := hw
      obtain ⟨hP1, hK1, hD1⟩ := hB
      rw [ht] at hP1
      have hK1 := va_K.moved hvm.symm hK1
      obtain ⟨hP, hD⟩ := va_join (wr := [(mm, .inr (4, [.int 0, .ref e0, .int 0]))]) (w1 := [(g0, .inr (16, [.ref mj, .ref mq, .ref mm, .ref ms, .ref mf, .ref ml, .int 0, .int 0, .int 1, .int 0, .int (-1), .int 0, .int 0, .int 0, .int 0, .int 0, .long 0]))]) hP hD [1] [0] rfl rfl (by decide) (by decide) hk1 hFc hP1 hD1
      generalize H1 = H at hP hS ⊢
      have hP : va_P (dC, dI) vwCl [(mm, .inr (4, [.int 0, .ref e0, .int 0])), (g0, .inr (16, [.ref mj, .ref mq, .ref mm, .ref ms, .ref mf, .ref ml, .int 0, .int 0, .int 1, .int 0, .int (-1), .int 0, .int 0, .int 0, .int 0, .int 0, .long 0]))] H := hP
      have hD : va_D A [(mm, .inr (4, [.int 0, .ref e0, .int 0])), (g0, .inr (16, [.ref mj, .ref mq, .ref mm, .ref ms, .ref mf, .ref ml, .int 0, .int 0, .int 1, .int 0, .int (-1), .int 0, .int 0, .int 0, .int 0, .int 0, .long 0]))] := hD
      have hK : va_K (dC, dI) vwCl [] s := hK
      refine W.widen (k := 0) (n := 0) (Nat.le_of_ble_eq_true rfl) (Nat.le_of_ble_eq_true rfl) ?_
      refine lv_if_eq (tgt := 65) hx hb dX11_addMason_60 (by decide) (fun _ => ?_) (fun c_9 => absurd (by decide) c_9)
      refine lv_aload_n hx hb dX11_addMason_65 rfl (lv_at hl 0 rfl) ?_
      refine va_get (D := (dC, dI)) (ci := 16) (v := .ref mm) (C := RX11) (T := TX11) (N := 17) hx hb hts (fun _ h9 => List.mem_cons_of_mem _ (List.mem_append_right _ (List.mem_append_right _ (List.mem_append_right _ (List.mem_append_left _ h9))))) hown hK hP 1 rfl rfl 2 (by decide) (hts _ (List.mem_cons_of_mem _ (List.mem_append_left _ (List.mem_of_getElem? (i := 2) rfl)))) (fun _ h9 => h9) rfl dX11_addMason_66 ?_
      refine va_new (ci := 14) (fs := [.int 0, .int 0, .int 0, .int 0]) (C := RX9) (T := TX9) (N := 4) hx hb hts (fun _ h9 => List.mem_cons_of_mem _ (List.mem_append_right _ (List.mem_append_right _ (List.mem_append_right _ (List.mem_append_right _ (List.mem_append_right _ (List.mem_append_left _ h9))))))) tyX9 tyX9_ok hown (hts _ (List.mem_cons_of_mem _ (List.mem_append_left _ (List.mem_of_getElem? (i := 3) rfl)))) (hts _ (List.mem_cons_of_mem _ (List.mem_append_left _ (List.mem_of_getElem? (i := 4) rfl)))) (hts _ (List.mem_cons_of_mem _ (List.mem_append_left _ (List.mem_of_getElem? (i := 5) rfl)))) hK hP hD hS hA rfl (fun j hj => by rcases (show j = 0 ∨ j = 1 ∨ j = 2 ∨ j = 3 by omega) with rfl | rfl | rfl | rfl <;> rfl) (Nat.le_of_ble_eq_true rfl) (Nat.le_of_ble_eq_true rfl) dX11_addMason_69 (fun q_5 H hP hD hS => ?_)
      have hP : va_P (dC, dI) vwCl [(mm, .inr (4, [.int 0, .ref e0, .int 0])), (g0, .inr (16, [.ref mj, .ref mq, .ref mm, .ref ms, .ref mf, .ref ml, .int 0, .int 0, .int 1, .int 0, .int (-1), .int 0, .int 0, .int 0, .int 0, .int 0, .long 0])), (q_5, .inr (14, [.int 0, .int 0, .int 0, .int 0]))] H := hP
      have hD : va_D A [(mm, .inr (4, [.int 0, .ref e0, .int 0])), (g0, .inr (16, [.ref mj, .ref mq, .ref mm, .ref ms, .ref mf, .ref ml, .int 0, .int 0, .int 1, .int 0, .int (-1), .int 0, .int 0, .int 0, .int 0, .int 0, .long 0])), (q_5, .inr (14, [.int 0, .int 0, .int 0, .int 0]))] := hD
      refine W.widen (k := 1) (n := 4) (Nat.le_of_ble_eq_true rfl) (Nat.le_of_ble_eq_true rfl) ?_
      refine lv_dup hx hb dX11_addMason_72 rfl ?_
      refine lv_iload_n hx hb dX11_addMason_73 rfl (lv_at hl 1 rfl) ?_
      refine lv_iload_n hx hb dX11_addMason_74 rfl (lv_at hl 2 rfl) ?_
      have hPc := hP.sub (ws' := [(q_5, .inr (14, [.int 0, .int 0, .int 0, .int 0]))]) [2] rfl
      have hDc := hD.sub (ws' := [(q_5, .inr (14, [.int 0, .int 0, .int 0, .int 0]))]) [2] (by decide) rfl
      have hKc := hK.sub (tys' := []) [] rfl
      have hFc := va_free (wc := [(q_5, .inr (14, [.int 0, .int 0, .int 0, .int 0]))]) hD hS hA [2] rfl
      refine va_callv (va_runI (As := [.int p0, .int p1]) (rest := [.ref q_5, .ref mm]) ⟨hx, hb, hml, hown, hts⟩ (c_X9_init l dC dI e0 q_5 p0 p1 H.size) (cwI 2 hts (goodIn_sub (fun _ h9 => List.mem_cons_of_mem _ (List.mem_append_right _ (List.mem_append_right _ (List.mem_append_right _ (List.mem_append_right _ (List.mem_append_right _ (List.mem_append_right _ (List.mem_append_left _ h9)))))))) (by decide +kernel)) rfl rfl rfl (hts _ (List.mem_cons_of_mem _ (List.mem_append_left _ (List.mem_of_getElem? (i := 5) rfl)))) (hts _ (List.mem_cons_of_mem _ (List.mem_append_left _ (List.mem_of_getElem? (i := 6) rfl)))) (hts _ (List.mem_cons_of_mem _ (List.mem_append_left _ (List.mem_of_getElem? (i := 7) rfl)))) rfl (by decide +kernel) ⟨(Nat.le_of_ble_eq_true rfl), (Nat.le_of_ble_eq_true rfl)⟩) ⟨fz_blind, fz_pre hPc hKc hDc hAm hS hFc⟩ rfl rfl hl.1 rfl (lv_room (Nat.le_of_ble_eq_true rfl)) dX11_addMason_75 ⟨(Nat.le_of_ble_eq_true rfl), (Nat.le_of_ble_eq_true rfl)⟩) hS (fun q _ h => hFc q h) hFc (fun u t H1 locs ht hvm hw hB hz1 hk1 hS => ?_)
      obtain ⟨hP1, hK1, hD1⟩ := hB
      rw [ht] at hP1
      have hK1 := va_K.moved hvm.symm hK1
      obtain ⟨hP, hD⟩ := va_join (wr := [(mm, .inr (4, [.int 0, .ref e0, .int 0])), (g0, .inr (16, [.ref mj, .ref mq, .ref mm, .ref ms, .ref mf, .ref ml, .int 0, .int 0, .int 1, .int 0, .int (-1), .int 0, .int 0, .int 0, .int 0, .int 0, .long 0]))]) (w1 := [(q_5, .inr (14, [.int p0, .int p1, .int 0, .int 0]))]) hP hD [2] [0, 1] rfl rfl (by decide) (by decide) hk1 hFc hP1 hD1
      generalize H1 = H at hP hS ⊢
      have hP : va_P (dC, dI) vwCl [(mm, .inr (4, [.int 0, .ref e0, .int 0])), (g0, .inr (16, [.ref mj, .ref mq, .ref mm, .ref ms, .ref mf, .ref ml, .int 0, .int 0, .int 1, .int 0, .int (-1), .int 0, .int 0, .int 0, .int 0, .int 0, .long 0])), (q_5, .inr (14, [.int p0, .int p1, .int 0, .int 0]))] H := hP
      have hD : va_D A [(mm, .inr (4, [.int 0, .ref e0, .int 0])), (g0, .inr (16, [.ref mj, .ref mq, .ref mm, .ref ms, .ref mf, .ref ml, .int 0, .int 0, .int 1, .int 0, .int (-1), .int 0, .int 0, .int 0, .int 0, .int 0, .long 0])), (q_5, .inr (14, [.int p0, .int p1, .int 0, .int 0]))] := hD
      have hK : va_K (dC, dI) vwCl [] s := hK
      refine W.widen (k := 1) (n := 4) (Nat.le_of_ble_eq_true rfl) (Nat.le_of_ble_eq_true rfl) ?_
      have hPc := hP.sub (ws' := [(mm, .inr (4, [.int 0, .ref e0, .int 0])), (q_5, .inr (14, [.int p0, .int p1, .int 0, .int 0]))]) [0, 2] rfl
      have hDc := hD.sub (ws' := [(mm, .inr (4, [.int 0, .ref e0, .int 0])), (q_5, .inr (14, [.int p0, .int p1, .int 0, .int 0]))]) [0, 2] (by decide) rfl
      have hKc := hK.sub (tys' := []) [] rfl
      have hFc := va_free (wc := [(mm, .inr (4, [.int 0, .ref e0, .int 0])), (q_5, .inr (14, [.int p0, .int p1, .int 0, .int 0]))]) hD hS hA [0, 2] rfl
      refine va_callFi (va_runF (As := [.ref q_5]) (rest := []) (hK.1 4 _ rfl).2 ⟨hx, hb, hml, hown, hts⟩ (c_Jx4_addM l dC dI e0 mm q_5 p0 p1 H.size) (va_cwF 1 hts (goodIn_sub (fun _ h9 => List.mem_cons_of_mem _ (List.mem_append_right _ (List.mem_append_right _ (List.mem_append_right _ (List.mem_append_right _ (List.mem_append_right _ (List.mem_append_right _ (List.mem_append_right _ (List.mem_append_left _ h9))))))))) (by decide +kernel)) rfl rfl rfl hAm.1.2.2.2.1.2.2 (by decide +kernel) ⟨(Nat.le_of_ble_eq_true rfl), (Nat.le_of_ble_eq_true rfl)⟩) ⟨fz_blind, va_recv hKc hPc (ci := 4) (q0 := 0) rfl rfl, fz_pre hPc hKc hDc hAm hS hFc⟩ rfl rfl hl.1 rfl (lv_room (Nat.le_of_ble_eq_true rfl)) dX11_addMason_78 ⟨(Nat.le_of_ble_eq_true rfl), (Nat.le_of_ble_eq_true rfl)⟩) hS (fun q _ h => hFc q h) hFc (fun r u t H1 locs ht hvm hw hB hz1 hk1 hS => ?_)
      obtain rfl := hw
      obtain ⟨hel_6, hP1, hK1, hD1⟩ := hB
      rw [ht] at hP1
      have hK1 := va_K.moved hvm.symm hK1
      obtain ⟨hP, hD⟩ := va_join (wr := [(g0, .inr (16, [.ref mj, .ref mq, .ref mm, .ref ms, .ref mf, .ref ml, .int 0, .int 0, .int 1, .int 0, .int (-1), .int 0, .int 0, .int 0, .int 0, .int 0, .long 0]))]) (w1 := [(mm, .inr (4, [.int 1, .ref hel_6, .int 1]))]) hP hD [0, 2] [1] rfl rfl (by decide) (by decide) hk1 hFc hP1 hD1
      generalize H1 = H at hP hS ⊢
      have hP : va_P (dC, dI) vwCl [(g0, .inr (16, [.ref mj, .ref mq, .ref mm, .ref ms, .ref mf, .ref ml, .int 0, .int 0, .int 1, .int 0, .int (-1), .int 0, .int 0, .int 0, .int 0, .int 0, .long 0])), (mm, .inr (4, [.int 1, .ref hel_6, .int 1]))] H := hP
      have hD : va_D A [(g0, .inr (16, [.ref mj, .ref mq, .ref mm, .ref ms, .ref mf, .ref ml, .int 0, .int 0, .int 1, .int 0, .int (-1), .int 0, .int 0, .int 0, .int 0, .int 0, .long 0])), (mm, .inr (4, [.int 1, .ref hel_6, .int 1]))] := hD
      have hK : va_K (dC, dI) vwCl [] s := hK
      refine W.widen (k := 2) (n := 14) (Nat.le_of_ble_eq_true rfl) (Nat.le_of_ble_eq_true rfl) ?_
      refine lv_pop hx hb dX11_addMason_83 rfl ?_
      refine lv_aload_n hx hb dX11_addMason_84 rfl (lv_at hl 0 rfl) ?_
      refine va_get (D := (dC, dI)) (ci := 16) (v := .ref mm) (C := RX11) (T := TX11) (N := 17) hx hb hts (fun _ h9 => List.mem_cons_of_mem _ (List.mem_append_right _ (List.mem_append_right _ (List.mem_append_right _ (List.mem_append_left _ h9))))) hown hK hP 0 rfl rfl 2 (by decide) (hts _ (List.mem_cons_of_mem _ (List.mem_append_left _ (List.mem_of_getElem? (i := 2) rfl)))) (fun _ h9 => h9) rfl dX11_addMason_85 ?_
      have hPc := hP.sub (ws' := [(mm, .inr (4, [.int 1, .ref hel_6, .int 1]))]) [1] rfl
      have hDc := hD.sub (ws' := [(mm, .inr (4, [.int 1, .ref hel_6, .int 1]))]) [1] (by decide) rfl
      have hKc := hK.sub (tys' := []) [] rfl
      have hFc : ∀ q : Nat, H.size ≤ q → A q := fun q h => hA q (Nat.le_trans hS.1 h)
      refine va_callFi (va_runF (As := []) (rest := []) (hK.1 4 _ rfl).2 ⟨hx, hb, hml, hown, hts⟩ (c_Jx4_size l dC dI e0 mm 1 hel_6 1 H.size) (va_cwF 0 hts (goodIn_sub (fun _ h9 => List.mem_cons_of_mem _ (List.mem_append_right _ (List.mem_append_right _ (List.mem_append_right _ (List.mem_append_right _ (List.mem_append_left _ h9)))))) (by decide +kernel)) rfl rfl rfl hAm.1.2.2.2.1.2.1 (by decide +kernel) ⟨(Nat.le_of_ble_eq_true rfl), (Nat.le_of_ble_eq_true rfl)⟩) ⟨fz_blind, va_recv hKc hPc (ci := 4) (q0 := 0) rfl rfl, fz_pre hPc hKc hDc hAm hS hFc⟩ rfl rfl hl.1 rfl (lv_room (Nat.le_of_ble_eq_true rfl)) dX11_addMason_88 ⟨(Nat.le_of_ble_eq_true rfl), (Nat.le_of_ble_eq_true rfl)⟩) hS (fun q _ h => hFc q h) hFc (fun r u t H1 locs ht hvm hw hB hz1 hk1 hS => ?_)
      obtain rfl := hw
      have hP := fz_keep hP hk1
      generalize H1 = H at hP hS ⊢
      have hP : va_P (dC, dI) vwCl [(g0, .inr (16, [.ref mj, .ref mq, .ref mm, .ref ms, .ref mf, .ref ml, .int 0, .int 0, .int 1, .int 0, .int (-1), .int 0, .int 0, .int 0, .int 0, .int 0, .long 0])), (mm, .inr (4, [.int 1, .ref hel_6, .int 1]))] H := hP
      have hD : va_D A [(g0, .inr (16, [.ref mj, .ref mq, .ref mm, .ref ms, .ref mf, .ref ml, .int 0, .int 0, .int 1, .int 0, .int (-1), .int 0, .int 0, .int 0, .int 0, .int 0, .long 0])), (mm, .inr (4, [.int 1, .ref hel_6, .int 1]))] := hD
      refine W.widen (k := 2) (n := 14) (Nat.le_of_ble_eq_true rfl) (Nat.le_of_ble_eq_true rfl) ?_
      refine lv_iconst (v := 1) hx hb dX11_addMason_93 (by decide) ?_
      refine lv_isub hx hb dX11_addMason_94 ?_
      refine lv_topi (fun z_9 e_9 => ?_)
      obtain rfl : 0 = z_9 := (e_9.trans (by decide)).symm
      have hP9 := hP.sub (ws' := [(g0, .inr (16, [.ref mj, .ref mq, .ref mm, .ref ms, .ref mf, .ref ml, .int 0, .int 0, .int 1, .int 0, .int (-1), .int 0, .int 0, .int 0, .int 0, .int 0, .long 0]))]) [0] rfl
      have hD9 := hD.sub (ws' := [(g0, .inr (16, [.ref mj, .ref mq, .ref mm, .ref ms, .ref mf, .ref ml, .int 0, .int 0, .int 1, .int 0, .int (-1), .int 0, .int 0, .int 0, .int 0, .int 0, .long 0]))]) [0] (by decide) rfl
      have hK9 := hK.sub (tys' := []) [] rfl
      refine W.widen (k := 2) (n := 14) (Nat.le_of_ble_eq_true rfl) (Nat.le_of_ble_eq_true rfl) ?_
      exact W.iret (v := 0) hx hb hr (fun t ht hW => ⟨⟨0, 0, rfl, Or.inl (⟨rfl, rfl, (q_c_X11_addMason_0 hp_1 hp_3)⟩), ⟨by rw [ht]; exact hP9, va_K.moved hW.alike hK9, hD9⟩⟩, hS.F ht⟩) hS.2.2 dX11_addMason_95
    · have hP := fz_keep hP hk1
      generalize H1 = H at hP hS ⊢
      have hP : va_P (dC, dI) vwCl [(g0, .inr (16, [.ref mj, .ref mq, .ref mm, .ref ms, .ref mf, .ref ml, .int 0, .int 0, .int 1, .int 0, .int (-1), .int 0, .int 0, .int 0, .int 0, .int 0, .long 0])), (mm, .inr (4, [.int 0, .ref e0, .int 0]))] H := hP
      have hD : va_D A [(g0, .inr (16, [.ref mj, .ref mq, .ref mm, .ref ms, .ref mf, .ref ml, .int 0, .int 0, .int 1, .int 0, .int (-1), .int 0, .int 0, .int 0, .int 0, .int 0, .long 0])), (mm, .inr (4, [.int 0, .ref e0, .int 0]))] := hD
      refine W.widen (k := 0) (n := 0) (Nat.le_of_ble_eq_true rfl) (Nat.le_of_ble_eq_true rfl) ?_
      refine lv_if_eq (tgt := 29) hx hb dX11_addMason_22 (by decide) (fun _ => ?_) (fun c_9 => absurd (by decide) c_9)
      refine lv_iconst (v := 0) hx hb dX11_addMason_29 (by decide) ?_
      refine lv_iconst (v := 1) hx hb dX11_addMason_30 (by decide) ?_
      have hPc := hP.sub (ws' := [(g0, .inr (16, [.ref mj, .ref mq, .ref mm, .ref ms, .ref mf, .ref ml, .int 0, .int 0, .int 1, .int 0, .int (-1), .int 0, .int 0, .int 0, .int 0, .int 0, .long 0]))]) [0] rfl
      have hDc := hD.sub (ws' := [(g0, .inr (16, [.ref mj, .ref mq, .ref mm, .ref ms, .ref mf, .ref ml, .int 0, .int 0, .int 1, .int 0, .int (-1), .int 0, .int 0, .int 0, .int 0, .int 0, .long 0]))]) [0] (by decide) rfl
      have hKc := hK.sub (tys' := []) [] rfl
      have hFc := va_free (wc := [(g0, .inr (16, [.ref mj, .ref mq, .ref mm, .ref ms, .ref mf, .ref ml, .int 0, .int 0, .int 1, .int 0, .int (-1), .int 0, .int 0, .int 0, .int 0, .int 0, .long 0]))]) hD hS hA [0] rfl
      refine va_calli (va_runV (As := [.int 0, .int 1]) (rest := []) ⟨hx, hb, hml, hown, hts⟩ (c_X11_no0 l dC dI e0 g0 1 mj mq mm ms mf ml 0 H.size) (cwV 2 hts (goodIn_sub (fun _ h9 => List.mem_cons_of_mem _ (List.mem_append_right _ (List.mem_append_right _ (List.mem_append_right _ (List.mem_append_right _ (List.mem_append_right _ (List.mem_append_right _ (List.mem_append_right _ (List.mem_append_right _ h9))))))))) (by decide +kernel)) rfl rfl rfl (by decide +kernel) ⟨(Nat.le_of_ble_eq_true rfl), (Nat.le_of_ble_eq_true rfl)⟩) ⟨fz_blind, va_recv hKc hPc (ci := 16) (q0 := 0) rfl rfl, fz_pre hPc hKc hDc hAm hS hFc⟩ rfl rfl hl.1 rfl (lv_room (Nat.le_of_ble_eq_true rfl)) dX11_addMason_31 ⟨(Nat.le_of_ble_eq_true rfl), (Nat.le_of_ble_eq_true rfl)⟩) hS (fun q _ h => hFc q h) hFc (fun r u t H1 locs ht hvm hw hB hz1 hk1 hS => ?_)
      obtain rfl := hw
      obtain ⟨hP1, hK1, hD1⟩ := hB
      rw [ht] at hP1
      have hK1 := va_K.moved hvm.symm hK1
      obtain ⟨hP, hD⟩ := va_join (wr := [(mm, .inr (4, [.int 0, .ref e0, .int 0]))]) (w1 := [(g0, .inr (16, [.ref mj, .ref mq, .ref mm, .ref ms, .ref mf, .ref ml, .int 1, .int 0, .int 1, .int 0, .int (-1), .int 0, .int 0, .int 0, .int 0, .int 0, .long 0]))]) hP hD [0] [1] rfl rfl (by decide) (by decide) hk1 hFc hP1 hD1
      generalize H1 = H at hP hS ⊢
      have hP : va_P (dC, dI) vwCl [(mm, .inr (4, [.int 0, .ref e0, .int 0])), (g0, .inr (16, [.ref mj, .ref mq, .ref mm, .ref ms, .ref mf, .ref ml, .int 1, .int 0, .int 1, .int 0, .int (-1), .int 0, .int 0, .int 0, .int 0, .int 0, .long 0]))] H := hP
      have hD : va_D A [(mm, .inr (4, [.int 0, .ref e0, .int 0])), (g0, .inr (16, [.ref mj, .ref mq, .ref mm, .ref ms, .ref mf, .ref ml, .int 1, .int 0, .int 1, .int 0, .int (-1), .int 0, .int 0, .int 0, .int 0, .int 0, .long 0]))] := hD
      have hK : va_K (dC, dI) vwCl [] s := hK
      refine W.widen (k := 0) (n := 0) (Nat.le_of_ble_eq_true rfl) (Nat.le_of_ble_eq_true rfl) ?_
      refine lv_if_ne (tgt := 63) hx hb dX11_addMason_34 (by decide) (fun _ => ?_) (fun c_9 => absurd c_9 (by decide))
      refine lv_iconst (v := 0) hx hb dX11_addMason_63 (by decide) ?_
      have hP9 := hP.sub (ws' := [(g0, .inr (16, [.ref mj, .ref mq, .ref mm, .ref ms, .ref mf, .ref ml, .int 1, .int 0, .int 1, .int 0, .int (-1), .int 0, .int 0, .int 0, .int 0, .int 0, .long 0]))]) [1] rfl
      have hD9 := hD.sub (ws' := [(g0, .inr (16, [.ref mj, .ref mq, .ref mm, .ref ms, .ref mf, .ref ml, .int 1, .int 0, .int 1, .int 0, .int (-1), .int 0, .int 0, .int 0, .int 0, .int 0, .long 0]))]) [1] (by decide) rfl
      have hK9 := hK.sub (tys' := []) [] rfl
      refine W.widen (k := 2) (n := 14) (Nat.le_of_ble_eq_true rfl) (Nat.le_of_ble_eq_true rfl) ?_
      exact W.iret (v := 0) hx hb hr (fun t ht hW => ⟨⟨0, 1, rfl, Or.inr (⟨rfl, rfl, (q_c_X11_addMason_1 hp_1 hp_4)⟩), ⟨by rw [ht]; exact hP9, va_K.moved hW.alike hK9, hD9⟩⟩, hS.F ht⟩) hS.2.2 dX11_addMason_64
  · have hP := fz_keep hP hk1
    generalize H1 = H at hP hS ⊢
    have hP : va_P (dC, dI) vwCl [(g0, .inr (16, [.ref mj, .ref mq, .ref mm, .ref ms, .ref mf, .ref ml, .int 0, .int 0, .int 1, .int 0, .int (-1), .int 0, .int 0, .int 0, .int 0, .int 0, .long 0])), (mm, .inr (4, [.int 0, .ref e0, .int 0]))] H := hP
    have hD : va_D A [(g0, .inr (16, [.ref mj, .ref mq, .ref mm, .ref ms, .ref mf, .ref ml, .int 0, .int 0, .int 1, .int 0, .int (-1), .int 0, .int 0, .int 0, .int 0, .int 0, .long 0])), (mm, .inr (4, [.int 0, .ref e0, .int 0]))] := hD
    refine W.widen (k := 0) (n := 0) (Nat.le_of_ble_eq_true rfl) (Nat.le_of_ble_eq_true rfl) ?_
    refine lv_if_eq (tgt := 29) hx hb dX11_addMason_10 (by decide) (fun _ => ?_) (fun c_9 => absurd (by decide) c_9)
    refine lv_iconst (v := 0) hx hb dX11_addMason_29 (by decide) ?_
    refine lv_iconst (v := 1) hx hb dX11_addMason_30 (by decide) ?_
    have hPc := hP.sub (ws' := [(g0, .inr (16, [.ref mj, .ref mq, .ref mm, .ref ms, .ref mf, .ref ml, .int 0, .int 0, .int 1, .int 0, .int (-1), .int 0, .int 0, .int 0, .int 0, .int 0, .long 0]))]) [0] rfl
    have hDc := hD.sub (ws' := [(g0, .inr (16, [.ref mj, .ref mq, .ref mm, .ref ms, .ref mf, .ref ml, .int 0, .int 0, .int 1, .int 0, .int (-1), .int 0, .int 0, .int 0, .int 0, .int 0, .long 0]))]) [0] (by decide) rfl
    have hKc := hK.sub (tys' := []) [] rfl
    have hFc := va_free (wc := [(g0, .inr (16, [.ref mj, .ref mq, .ref mm, .ref ms, .ref mf, .ref ml, .int 0, .int 0, .int 1, .int 0, .int (-1), .int 0, .int 0, .int 0, .int 0, .int 0, .long 0]))]) hD hS hA [0] rfl
    refine va_calli (va_runV (As := [.int 0, .int 1]) (rest := []) ⟨hx, hb, hml, hown, hts⟩ (c_X11_no0 l dC dI e0 g0 1 mj mq mm ms mf ml 0 H.size) (cwV 2 hts (goodIn_sub (fun _ h9 => List.mem_cons_of_mem _ (List.mem_append_right _ (List.mem_append_right _ (List.mem_append_right _ (List.mem_append_right _ (List.mem_append_right _ (List.mem_append_right _ (List.mem_append_right _ (List.mem_append_right _ h9))))))))) (by decide +kernel)) rfl rfl rfl (by decide +kernel) ⟨(Nat.le_of_ble_eq_true rfl), (Nat.le_of_ble_eq_true rfl)⟩) ⟨fz_blind, va_recv hKc hPc (ci := 16) (q0 := 0) rfl rfl, fz_pre hPc hKc hDc hAm hS hFc⟩ rfl rfl hl.1 rfl (lv_room (Nat.le_of_ble_eq_true rfl)) dX11_addMason_31 ⟨(Nat.le_of_ble_eq_true rfl), (Nat.le_of_ble_eq_true rfl)⟩) hS (fun q _ h => hFc q h) hFc (fun r u t H1 locs ht hvm hw hB hz1 hk1 hS => ?_)
    obtain rfl := hw
    obtain ⟨hP1, hK1, hD1⟩ := hB
    rw [ht] at hP1
    have hK1 := va_K.moved hvm.symm hK1
    obtain ⟨hP, hD⟩ := va_join (wr := [(mm, .inr (4, [.int 0, .ref e0, .int 0]))]) (w1 := [(g0, .inr (16, [.ref mj, .ref mq, .ref mm, .ref ms, .ref mf, .ref ml, .int 1, .int 0, .int 1, .int 0, .int (-1), .int 0, .int 0, .int 0, .int 0, .int 0, .long 0]))]) hP hD [0] [1] rfl rfl (by decide) (by decide) hk1 hFc hP1 hD1
    generalize H1 = H at hP hS ⊢
    have hP : va_P (dC, dI) vwCl [(mm, .inr (4, [.int 0, .ref e0, .int 0])), (g0, .inr (16, [.ref mj, .ref mq, .ref mm, .ref ms, .ref mf, .ref ml, .int 1, .int 0, .int 1, .int 0, .int (-1), .int 0, .int 0, .int 0, .int 0, .int 0, .long 0]))] H := hP
    have hD : va_D A [(mm, .inr (4, [.int 0, .ref e0, .int 0])), (g0, .inr (16, [.ref mj, .ref mq, .ref mm, .ref ms, .ref mf, .ref ml, .int 1, .int 0, .int 1, .int 0, .int (-1), .int 0, .int 0, .int 0, .int 0, .int 0, .long 0]))] := hD
    have hK : va_K (dC, dI) vwCl [] s := hK
    refine W.widen (k := 0) (n := 0) (Nat.le_of_ble_eq_true rfl) (Nat.le_of_ble_eq_true rfl) ?_
    refine lv_if_ne (tgt := 63) hx hb dX11_addMason_34 (by decide) (fun _ => ?_) (fun c_9 => absurd c_9 (by decide))
    refine lv_iconst (v := 0) hx hb dX11_addMason_63 (by decide) ?_
    have hP9 := hP.sub (ws' := [(g0, .inr (16, [.ref mj, .ref mq, .ref mm, .ref ms, .ref mf, .ref ml, .int 1, .int 0, .int 1, .int 0, .int (-1), .int 0, .int 0, .int 0, .int 0, .int 0, .long 0]))]) [1] rfl
    have hD9 := hD.sub (ws' := [(g0, .inr (16, [.ref mj, .ref mq, .ref mm, .ref ms, .ref mf, .ref ml, .int 1, .int 0, .int 1, .int 0, .int (-1), .int 0, .int 0, .int 0, .int 0, .int 0, .long 0]))]) [1] (by decide) rfl
    have hK9 := hK.sub (tys' := []) [] rfl
    refine W.widen (k := 2) (n := 14) (Nat.le_of_ble_eq_true rfl) (Nat.le_of_ble_eq_true rfl) ?_
    exact W.iret (v := 0) hx hb hr (fun t ht hW => ⟨⟨0, 1, rfl, Or.inr (⟨rfl, rfl, (q_c_X11_addMason_2 hp_2)⟩), ⟨by rw [ht]; exact hP9, va_K.moved hW.alike hK9, hD9⟩⟩, hS.F ht⟩) hS.2.2 dX11_addMason_64
def v_c_X11_cut : List Cond := .code yX11_cut cX11_cut 9 (some .int) :: ([] ++ (wsV RX11 61 RX11 yX11_isPlace v_c_X11_isPlace ++ (wsV RX11 65 RX11 yX11_no v_c_X11_no0)))
set_option maxRecDepth 20000 in
theorem i_c_X11_cut : ∀ w ∈ v_c_X11_cut, w ∈ lw_tbl := List.forall_mem_cons.mpr ⟨List.mem_of_getElem? (i := 1757) (by decide +kernel), List.forall_mem_append.mpr ⟨fun _ h => absurd h List.not_mem_nil, List.forall_mem_append.mpr ⟨(by unfold wsV; exact List.forall_mem_append.mpr ⟨List.forall_mem_cons.mpr ⟨List.mem_of_getElem? (i := 1537) (by decide +kernel), List.forall_mem_cons.mpr ⟨List.mem_of_getElem? (i := 1539) (by decide +kernel), List.forall_mem_cons.mpr ⟨List.mem_of_getElem? (i := 32) (by decide +kernel), List.forall_mem_cons.mpr ⟨List.mem_of_getElem? (i := 54) (by decide +kernel), fun _ h => absurd h List.not_mem_nil⟩⟩⟩⟩, i_c_X11_isPlace⟩), (by unfold wsV; exact List.forall_mem_append.mpr ⟨List.forall_mem_cons.mpr ⟨List.mem_of_getElem? (i := 1434) (by decide +kernel), List.forall_mem_cons.mpr ⟨List.mem_of_getElem? (i := 1436) (by decide +kernel), List.forall_mem_cons.mpr ⟨List.mem_of_getElem? (i := 25) (by decide +kernel), List.forall_mem_cons.mpr ⟨List.mem_of_getElem? (i := 54) (by decide +kernel), fun _ h => absurd h List.not_mem_nil⟩⟩⟩⟩, i_c_X11_no0⟩)⟩⟩⟩
set_option maxHeartbeats 4000000 in
set_option maxRecDepth 100000 in
theorem c_X11_cut (l : Launch) (dC : Nat → ClassId) (dI : Nat → Nat → Nat) (e0 : Nat) (g0 : Nat) (p0 p1 p2 : Int32) (mj mq mm ms mf ml : Nat) (sz : Nat) : Met l yX11_cut v_c_X11_cut ({ frames := 3, cells := 0, slots := 0, locals := 71 }) (fz_P (dC, dI) e0 [(g0, .inr (16, [.ref mj, .ref mq, .ref mm, .ref ms, .ref mf, .ref ml, .int 0, .int 0, .int 1, .int 0, .int (-1), .int 0, .int 0, .int 0, .int 0, .int 0, .long 0])), (mj, .inr (4, [.int 0, .ref e0, .int 0]))] [] sz (va_A [(g0, .inr (16, [.ref mj, .ref mq, .ref mm, .ref ms, .ref mf, .ref ml, .int 0, .int 0, .int 1, .int 0, .int (-1), .int 0, .int 0, .int 0, .int 0, .int 0, .long 0])), (mj, .inr (4, [.int 0, .ref e0, .int 0]))] sz) [.ref g0, .int p0, .int p1, .int p2]) (va_Qi (fun (r : Int32) (u : Unit) => r = 0) (fun (u : Unit) (t : State) => va_P (dC, dI) vwCl [(g0, .inr (16, [.ref mj, .ref mq, .ref mm, .ref ms, .ref mf, .ref ml, .int 1, .int 0, .int 1, .int 0, .int (-1), .int 0, .int 0, .int 0, .int 0, .int 0, .long 0]))] t.heap ∧ va_K (dC, dI) vwCl [] t ∧ va_D (va_A [(g0, .inr (16, [.ref mj, .ref mq, .ref mm, .ref ms, .ref mf, .ref ml, .int 0, .int 0, .int 1, .int 0, .int (-1), .int 0, .int 0, .int 0, .int 0, .int 0, .long 0])), (mj, .inr (4, [.int 0, .ref e0, .int 0]))] sz) [(g0, .inr (16, [.ref mj, .ref mq, .ref mm, .ref ms, .ref mf, .ref ml, .int 1, .int 0, .int 1, .int 0, .int (-1), .int 0, .int 0, .int 0, .int 0, .int 0, .long 0]))]) (va_A [(g0, .inr (16, [.ref mj, .ref mq, .ref mm, .ref ms, .ref mf, .ref ml, .int 0, .int 0, .int 1, .int 0, .int (-1), .int 0, .int 0, .int 0, .int 0, .int 0, .long 0])), (mj, .inr (4, [.int 0, .ref e0, .int 0]))] sz)) 0 0 (va_A [(g0, .inr (16, [.ref mj, .ref mq, .ref mm, .ref ms, .ref mf, .ref ml, .int 0, .int 0, .int 1, .int 0, .int (-1), .int 0, .int 0, .int 0, .int 0, .int 0, .long 0])), (mj, .inr (4, [.int 0, .ref e0, .int 0]))] sz) := by
  refine Met.ofW (cc := cX11_cut) (maxL := 9) (ret := (some .int)) (by decide) rfl ?_
  intro p e s m args below meth c s₁ B hml hv
  obtain ⟨rfl, hsz, hP, hK, hD0, hAm⟩ := hv
  have hx := B.exec
  have hb := B.bytes
  have hr := B.returns
  have hts := atoms_spec (ws := v_c_X11_cut) B.pre
  have hown : s.vm.findClass RX11 = some m.cls := findClass_of_methodNamed B.named
  have hlocks := B.notSynchronized
  subst hsz
  have hD := hD0.self (sz := s.heap.size)
  generalize hAe : va_A [(g0, .inr (16, [.ref mj, .ref mq, .ref mm, .ref ms, .ref mf, .ref ml, .int 0, .int 0, .int 1, .int 0, .int (-1), .int 0, .int 0, .int 0, .int 0, .int 0, .long 0])), (mj, .inr (4, [.int 0, .ref e0, .int 0]))] s.heap.size = A at hD hAm ⊢
  have hA : ∀ q : Nat, s.heap.size ≤ q → A q := fun q h => by rw [← hAe]; exact Or.inr h
  have hS : va_S A s.heap s.heap [] := va_S.rf
  have hP : va_P (dC, dI) vwCl [(g0, .inr (16, [.ref mj, .ref mq, .ref mm, .ref ms, .ref mf, .ref ml, .int 0, .int 0, .int 1, .int 0, .int (-1), .int 0, .int 0, .int 0, .int 0, .int 0, .long 0])), (mj, .inr (4, [.int 0, .ref e0, .int 0]))] s.heap := hP
  have hl := lv_entry ([.ref g0, .int p0, .int p1, .int p2]) (n := 9) (Nat.le_of_ble_eq_true rfl)
  rw [lg_entry_eq]
  generalize (lg_sl ([.ref g0, .int p0, .int p1, .int p2]) ++ List.replicate (9 - (lg_sl ([.ref g0, .int p0, .int p1, .int p2])).length) Slot.unset).toArray = ls at hl ⊢
  have hl : lv_has ls 9 [(0, .ref g0), (1, .int p0), (2, .int p1), (3, .int p2)] := hl
  refine lv_aload_n hx hb dX11_cut_0 rfl (lv_at hl 0 rfl) ?_
  refine lv_aload_n hx hb dX11_cut_1 rfl (lv_at hl 0 rfl) ?_
  refine lv_iload_n hx hb dX11_cut_2 rfl (lv_at hl 1 rfl) ?_
  have hPc := hP.sub (ws' := [(g0, .inr (16, [.ref mj, .ref mq, .ref mm, .ref ms, .ref mf, .ref ml, .int 0, .int 0, .int 1, .int 0, .int (-1), .int 0, .int 0, .int 0, .int 0, .int 0, .long 0])), (mj, .inr (4, [.int 0, .ref e0, .int 0]))]) [0, 1] rfl
  have hDc := hD.sub (ws' := [(g0, .inr (16, [.ref mj, .ref mq, .ref mm, .ref ms, .ref mf, .ref ml, .int 0, .int 0, .int 1, .int 0, .int (-1), .int 0, .int 0, .int 0, .int 0, .int 0, .long 0])), (mj, .inr (4, [.int 0, .ref e0, .int 0]))]) [0, 1] (by decide) rfl
  have hKc := hK.sub (tys' := []) [] rfl
  have hFc : ∀ q : Nat, s.heap.size ≤ q → A q := fun q h => hA q (Nat.le_trans hS.1 h)
  refine va_calli (va_runV (As := [.int p0]) (rest := [.ref g0]) ⟨hx, hb, hml, hown, hts⟩ (c_X11_isPlace l dC dI e0 g0 p0 mj mq mm ms mf ml 0 s.heap.size) (cwV 1 hts (goodIn_sub (fun _ h9 => List.mem_cons_of_mem _ (List.mem_append_right _ (List.mem_append_left _ h9))) (by decide +kernel)) rfl rfl rfl (by decide +kernel) ⟨(Nat.le_of_ble_eq_true rfl), (Nat.le_of_ble_eq_true rfl)⟩) ⟨fz_blind, va_recv hKc hPc (ci := 16) (q0 := 0) rfl rfl, fz_pre hPc hKc hDc hAm hS hFc⟩ rfl rfl hl.1 rfl (lv_room (Nat.le_of_ble_eq_true rfl)) dX11_cut_3 ⟨(Nat.le_of_ble_eq_true rfl), (Nat.le_of_ble_eq_true rfl)⟩) hS (fun q _ h => hFc q h) hFc (fun r u t H1 locs ht hvm hw hB hz1 hk1 hS => ?_)
  obtain rfl := hw
  have hP := fz_keep hP hk1
  generalize H1 = H at hP hS ⊢
  have hP : va_P (dC, dI) vwCl [(g0, .inr (16, [.ref mj, .ref mq, .ref mm, .ref ms, .ref mf, .ref ml, .int 0, .int 0, .int 1, .int 0, .int (-1), .int 0, .int 0, .int 0, .int 0, .int 0, .long 0])), (mj, .inr (4, [.int 0, .ref e0, .int 0]))] H := hP
  have hD : va_D A [(g0, .inr (16, [.ref mj, .ref mq, .ref mm, .ref ms, .ref mf, .ref ml, .int 0, .int 0, .int 1, .int 0, .int (-1), .int 0, .int 0, .int 0, .int 0, .int 0, .long 0])), (mj, .inr (4, [.int 0, .ref e0, .int 0]))] := hD
  refine W.widen (k := 0) (n := 0) (Nat.le_of_ble_eq_true rfl) (Nat.le_of_ble_eq_true rfl) ?_
  refine lv_if_eq (tgt := 55) hx hb dX11_cut_6 (by decide) (fun _ => ?_) (fun c_9 => absurd (by decide) c_9)
  refine lv_iconst (v := 0) hx hb dX11_cut_55 (by decide) ?_
  refine lv_iconst (v := 1) hx hb dX11_cut_56 (by decide) ?_
  have hPc := hP.sub (ws' := [(g0, .inr (16, [.ref mj, .ref mq, .ref mm, .ref ms, .ref mf, .ref ml, .int 0, .int 0, .int 1, .int 0, .int (-1), .int 0, .int 0, .int 0, .int 0, .int 0, .long 0]))]) [0] rfl
  have hDc := hD.sub (ws' := [(g0, .inr (16, [.ref mj, .ref mq, .ref mm, .ref ms, .ref mf, .ref ml, .int 0, .int 0, .int 1, .int 0, .int (-1), .int 0, .int 0, .int 0, .int 0, .int 0, .long 0]))]) [0] (by decide) rfl
  have hKc := hK.sub (tys' := []) [] rfl
  have hFc := va_free (wc := [(g0, .inr (16, [.ref mj, .ref mq, .ref mm, .ref ms, .ref mf, .ref ml, .int 0, .int 0, .int 1, .int 0, .int (-1), .int 0, .int 0, .int 0, .int 0, .int 0, .long 0]))]) hD hS hA [0] rfl
  refine va_calli (va_runV (As := [.int 0, .int 1]) (rest := []) ⟨hx, hb, hml, hown, hts⟩ (c_X11_no0 l dC dI e0 g0 1 mj mq mm ms mf ml 0 H.size) (cwV 2 hts (goodIn_sub (fun _ h9 => List.mem_cons_of_mem _ (List.mem_append_right _ (List.mem_append_right _ h9))) (by decide +kernel)) rfl rfl rfl (by decide +kernel) ⟨(Nat.le_of_ble_eq_true rfl), (Nat.le_of_ble_eq_true rfl)⟩) ⟨fz_blind, va_recv hKc hPc (ci := 16) (q0 := 0) rfl rfl, fz_pre hPc hKc hDc hAm hS hFc⟩ rfl rfl hl.1 rfl (lv_room (Nat.le_of_ble_eq_true rfl)) dX11_cut_57 ⟨(Nat.le_of_ble_eq_true rfl), (Nat.le_of_ble_eq_true rfl)⟩) hS (fun q _ h => hFc q h) hFc (fun r u t H1 locs ht hvm hw hB hz1 hk1 hS => ?_)
  obtain rfl := hw
  obtain ⟨hP1, hK1, hD1⟩ := hB
  rw [ht] at hP1
  have hK1 := va_K.moved hvm.symm hK1
  obtain ⟨hP, hD⟩ := va_join (wr := [(mj, .inr (4, [.int 0, .ref e0, .int 0]))]) (w1 := [(g0, .inr (16, [.ref mj, .ref mq, .ref mm, .ref ms, .ref mf, .ref ml, .int 1, .int 0, .int 1, .int 0, .int (-1), .int 0, .int 0, .int 0, .int 0, .int 0, .long 0]))]) hP hD [0] [1] rfl rfl (by decide) (by decide) hk1 hFc hP1 hD1
  generalize H1 = H at hP hS ⊢
  have hP : va_P (dC, dI) vwCl [(mj, .inr (4, [.int 0, .ref e0, .int 0])), (g0, .inr (16, [.ref mj, .ref mq, .ref mm, .ref ms, .ref mf, .ref ml, .int 1, .int 0, .int 1, .int 0, .int (-1), .int 0, .int 0, .int 0, .int 0, .int 0, .long 0]))] H := hP
  have hD : va_D A [(mj, .inr (4, [.int 0, .ref e0, .int 0])), (g0, .inr (16, [.ref mj, .ref mq, .ref mm, .ref ms, .ref mf, .ref ml, .int 1, .int 0, .int 1, .int 0, .int (-1), .int 0, .int 0, .int 0, .int 0, .int 0, .long 0]))] := hD
  have hK : va_K (dC, dI) vwCl [] s := hK
  refine W.widen (k := 0) (n := 0) (Nat.le_of_ble_eq_true rfl) (Nat.le_of_ble_eq_true rfl) ?_
  refine lv_if_eq (tgt := 65) hx hb dX11_cut_60 (by decide) (fun c_9 => absurd c_9 (by decide)) (fun _ => ?_)
  refine lv_iconst (v := 0) hx hb dX11_cut_63 (by decide) ?_
  have hP9 := hP.sub (ws' := [(g0, .inr (16, [.ref mj, .ref mq, .ref mm, .ref ms, .ref mf, .ref ml, .int 1, .int 0, .int 1, .int 0, .int (-1), .int 0, .int 0, .int 0, .int 0, .int 0, .long 0]))]) [1] rfl
  have hD9 := hD.sub (ws' := [(g0, .inr (16, [.ref mj, .ref mq, .ref mm, .ref ms, .ref mf, .ref ml, .int 1, .int 0, .int 1, .int 0, .int (-1), .int 0, .int 0, .int 0, .int 0, .int 0, .long 0]))]) [1] (by decide) rfl
  have hK9 := hK.sub (tys' := []) [] rfl
  refine W.widen (k := 0) (n := 0) (Nat.le_of_ble_eq_true rfl) (Nat.le_of_ble_eq_true rfl) ?_
  exact W.iret (v := 0) hx hb hr (fun t ht hW => ⟨⟨0, (), rfl, rfl, ⟨by rw [ht]; exact hP9, va_K.moved hW.alike hK9, hD9⟩⟩, hS.F ht⟩) hS.2.2 dX11_cut_64
def v_c_X11_readyOn : List Cond := .code yX11_readyOn cX11_readyOn 2 (some .int) :: ([] ++ (wsV RX11 290 RX11 yX11_noStone v_c_X11_noStone))
set_option maxRecDepth 20000 in
theorem i_c_X11_readyOn : ∀ w ∈ v_c_X11_readyOn, w ∈ lw_tbl := List.forall_mem_cons.mpr ⟨List.mem_of_getElem? (i := 1796) (by decide +kernel), List.forall_mem_append.mpr ⟨fun _ h => absurd h List.not_mem_nil, (by unfold wsV; exact List.forall_mem_append.mpr ⟨List.forall_mem_cons.mpr ⟨List.mem_of_getElem? (i := 1797) (by decide +kernel), List.forall_mem_cons.mpr ⟨List.mem_of_getElem? (i := 1799) (by decide +kernel), List.forall_mem_cons.mpr ⟨List.mem_of_getElem? (i := 43) (by decide +kernel), List.forall_mem_cons.mpr ⟨List.mem_of_getElem? (i := 54) (by decide +kernel), fun _ h => absurd h List.not_mem_nil⟩⟩⟩⟩, i_c_X11_noStone⟩)⟩⟩
set_option maxHeartbeats 4000000 in
set_option maxRecDepth 100000 in
theorem c_X11_readyOn (l : Launch) (dC : Nat → ClassId) (dI : Nat → Nat → Nat) (e0 : Nat) (g0 : Nat) (p0 : Int32) (mj mq mm ms mf ml : Nat) (sz : Nat) : Met l yX11_readyOn v_c_X11_readyOn ({ frames := 3, cells := 0, slots := 0, locals := 67 }) (fz_P (dC, dI) e0 [(g0, .inr (16, [.ref mj, .ref mq, .ref mm, .ref ms, .ref mf, .ref ml, .int 0, .int 0, .int 1, .int 0, .int (-1), .int 0, .int 0, .int 0, .int 0, .int 0, .long 0])), (ms, .inr (4, [.int 0, .ref e0, .int 0]))] [] sz (va_A [(g0, .inr (16, [.ref mj, .ref mq, .ref mm, .ref ms, .ref mf, .ref ml, .int 0, .int 0, .int 1, .int 0, .int (-1), .int 0, .int 0, .int 0, .int 0, .int 0, .long 0])), (ms, .inr (4, [.int 0, .ref e0, .int 0]))] sz) [.ref g0, .int p0]) (va_Qi (fun (r : Int32) (u : Unit) => r = 0) (fun (u : Unit) (t : State) => va_P (dC, dI) vwCl [(g0, .inr (16, [.ref mj, .ref mq, .ref mm, .ref ms, .ref mf, .ref ml, .int 1, .int 0, .int 1, .int 0, .int (-1), .int 0, .int 0, .int 0, .int 0, .int 0, .long 0]))] t.heap ∧ va_K (dC, dI) vwCl [] t ∧ va_D (va_A [(g0, .inr (16, [.ref mj, .ref mq, .ref mm, .ref ms, .ref mf, .ref ml, .int 0, .int 0, .int 1, .int 0, .int (-1), .int 0, .int 0, .int 0, .int 0, .int 0, .long 0])), (ms, .inr (4, [.int 0, .ref e0, .int 0]))] sz) [(g0, .inr (16, [.ref mj, .ref mq, .ref mm, .ref ms, .ref mf, .ref ml, .int 1, .int 0, .int 1, .int 0, .int (-1), .int 0, .int 0, .int 0, .int 0, .int 0, .long 0]))]) (va_A [(g0, .inr (16, [.ref mj, .ref mq, .ref mm, .ref ms, .ref mf, .ref ml, .int 0, .int 0, .int 1, .int 0, .int (-1), .int 0, .int 0, .int 0, .int 0, .int 0, .long 0])), (ms, .inr (4, [.int 0, .ref e0, .int 0]))] sz)) 0 0 (va_A [(g0, .inr (16, [.ref mj, .ref mq, .ref mm, .ref ms, .ref mf, .ref ml, .int 0, .int 0, .int 1, .int 0, .int (-1), .int 0, .int 0, .int 0, .int 0, .int 0, .long 0])), (ms, .inr (4, [.int 0, .ref e0, .int 0]))] sz) := by
  refine Met.ofW (cc := cX11_readyOn) (maxL := 2) (ret := (some .int)) (by decide) rfl ?_
  intro p e s m args below meth c s₁ B hml hv
  obtain ⟨rfl, hsz, hP, hK, hD0, hAm⟩ := hv
  have hx := B.exec
  have hb := B.bytes
  have hr := B.returns
  have hts := atoms_spec (ws := v_c_X11_readyOn) B.pre
  have hown : s.vm.findClass RX11 = some m.cls := findClass_of_methodNamed B.named
  have hlocks := B.notSynchronized
  subst hsz
  have hD := hD0.self (sz := s.heap.size)
  generalize hAe : va_A [(g0, .inr (16, [.ref mj, .ref mq, .ref mm, .ref ms, .ref mf, .ref ml, .int 0, .int 0, .int 1, .int 0, .int (-1), .int 0, .int 0, .int 0, .int 0, .int 0, .long 0])), (ms, .inr (4, [.int 0, .ref e0, .int 0]))] s.heap.size = A at hD hAm ⊢
  have hA : ∀ q : Nat, s.heap.size ≤ q → A q := fun q h => by rw [← hAe]; exact Or.inr h
  have hS : va_S A s.heap s.heap [] := va_S.rf
  have hP : va_P (dC, dI) vwCl [(g0, .inr (16, [.ref mj, .ref mq, .ref mm, .ref ms, .ref mf, .ref ml, .int 0, .int 0, .int 1, .int 0, .int (-1), .int 0, .int 0, .int 0, .int 0, .int 0, .long 0])), (ms, .inr (4, [.int 0, .ref e0, .int 0]))] s.heap := hP
  have hl := lv_entry ([.ref g0, .int p0]) (n := 2) (Nat.le_of_ble_eq_true rfl)
  rw [lg_entry_eq]
  generalize (lg_sl ([.ref g0, .int p0]) ++ List.replicate (2 - (lg_sl ([.ref g0, .int p0])).length) Slot.unset).toArray = ls at hl ⊢
  have hl : lv_has ls 2 [(0, .ref g0), (1, .int p0)] := hl
  refine lv_aload_n hx hb dX11_readyOn_0 rfl (lv_at hl 0 rfl) ?_
  refine lv_iload_n hx hb dX11_readyOn_1 rfl (lv_at hl 1 rfl) ?_
  have hPc := hP.sub (ws' := [(g0, .inr (16, [.ref mj, .ref mq, .ref mm, .ref ms, .ref mf, .ref ml, .int 0, .int 0, .int 1, .int 0, .int (-1), .int 0, .int 0, .int 0, .int 0, .int 0, .long 0])), (ms, .inr (4, [.int 0, .ref e0, .int 0]))]) [0, 1] rfl
  have hDc := hD.sub (ws' := [(g0, .inr (16, [.ref mj, .ref mq, .ref mm, .ref ms, .ref mf, .ref ml, .int 0, .int 0, .int 1, .int 0, .int (-1), .int 0, .int 0, .int 0, .int 0, .int 0, .long 0])), (ms, .inr (4, [.int 0, .ref e0, .int 0]))]) [0, 1] (by decide) rfl
  have hKc := hK.sub (tys' := []) [] rfl
  have hFc := va_free (wc := [(g0, .inr (16, [.ref mj, .ref mq, .ref mm, .ref ms, .ref mf, .ref ml, .int 0, .int 0, .int 1, .int 0, .int (-1), .int 0, .int 0, .int 0, .int 0, .int 0, .long 0])), (ms, .inr (4, [.int 0, .ref e0, .int 0]))]) hD hS hA [0, 1] rfl
  refine va_calli (va_runV (As := [.int p0]) (rest := []) ⟨hx, hb, hml, hown, hts⟩ (c_X11_noStone l dC dI e0 g0 p0 mj mq mm ms mf ml 0 s.heap.size) (cwV 1 hts (goodIn_sub (fun _ h9 => List.mem_cons_of_mem _ (List.mem_append_right _ (h9))) (by decide +kernel)) rfl rfl rfl (by decide +kernel) ⟨(Nat.le_of_ble_eq_true rfl), (Nat.le_of_ble_eq_true rfl)⟩) ⟨fz_blind, va_recv hKc hPc (ci := 16) (q0 := 0) rfl rfl, fz_pre hPc hKc hDc hAm hS hFc⟩ rfl rfl hl.1 rfl (lv_room (Nat.le_of_ble_eq_true rfl)) dX11_readyOn_2 ⟨(Nat.le_of_ble_eq_true rfl), (Nat.le_of_ble_eq_true rfl)⟩) hS (fun q _ h => hFc q h) hFc (fun r u t H1 locs ht hvm hw hB hz1 hk1 hS => ?_)
  obtain rfl := hw
  obtain ⟨hP1, hK1, hD1⟩ := hB
  rw [ht] at hP1
  have hK1 := va_K.moved hvm.symm hK1
  obtain ⟨hP, hD⟩ := va_join (wr := []) (w1 := [(g0, .inr (16, [.ref mj, .ref mq, .ref mm, .ref ms, .ref mf, .ref ml, .int 1, .int 0, .int 1, .int 0, .int (-1), .int 0, .int 0, .int 0, .int 0, .int 0, .long 0]))]) hP hD [0, 1] [] rfl rfl (by decide) (by decide) hk1 hFc hP1 hD1
  generalize H1 = H at hP hS ⊢
  have hP : va_P (dC, dI) vwCl [(g0, .inr (16, [.ref mj, .ref mq, .ref mm, .ref ms, .ref mf, .ref ml, .int 1, .int 0, .int 1, .int 0, .int (-1), .int 0, .int 0, .int 0, .int 0, .int 0, .long 0]))] H := hP
  have hD : va_D A [(g0, .inr (16, [.ref mj, .ref mq, .ref mm, .ref ms, .ref mf, .ref ml, .int 1, .int 0, .int 1, .int 0, .int (-1), .int 0, .int 0, .int 0, .int 0, .int 0, .long 0]))] := hD
  have hK : va_K (dC, dI) vwCl [] s := hK
  refine W.widen (k := 0) (n := 0) (Nat.le_of_ble_eq_true rfl) (Nat.le_of_ble_eq_true rfl) ?_
  refine lv_if_eq (tgt := 12) hx hb dX11_readyOn_5 (by decide) (fun c_9 => absurd c_9 (by decide)) (fun _ => ?_)
  refine lv_iconst (v := 0) hx hb dX11_readyOn_8 (by decide) ?_
  refine lv_goto (tgt := 28) hx hb dX11_readyOn_9 (by decide) ?_
  have hP9 := hP.sub (ws' := [(g0, .inr (16, [.ref mj, .ref mq, .ref mm, .ref ms, .ref mf, .ref ml, .int 1, .int 0, .int 1, .int 0, .int (-1), .int 0, .int 0, .int 0, .int 0, .int 0, .long 0]))]) [0] rfl
  have hD9 := hD.sub (ws' := [(g0, .inr (16, [.ref mj, .ref mq, .ref mm, .ref ms, .ref mf, .ref ml, .int 1, .int 0, .int 1, .int 0, .int (-1), .int 0, .int 0, .int 0, .int 0, .int 0, .long 0]))]) [0] (by decide) rfl
  have hK9 := hK.sub (tys' := []) [] rfl
  refine W.widen (k := 0) (n := 0) (Nat.le_of_ble_eq_true rfl) (Nat.le_of_ble_eq_true rfl) ?_
  exact W.iret (v := 0) hx hb hr (fun t ht hW => ⟨⟨0, (), rfl, rfl, ⟨by rw [ht]; exact hP9, va_K.moved hW.alike hK9, hD9⟩⟩, hS.F ht⟩) hS.2.2 dX11_readyOn_28
def v_c_X11_mark : List Cond := .code yX11_mark cX11_mark 2 (some .int) :: ([] ++ (wsV RX11 290 RX11 yX11_noStone v_c_X11_noStone))
set_option maxRecDepth 20000 in
theorem i_c_X11_mark : ∀ w ∈ v_c_X11_mark, w ∈ lw_tbl := List.forall_mem_cons.mpr ⟨List.mem_of_getElem? (i := 1816) (by decide +kernel), List.forall_mem_append.mpr ⟨fun _ h => absurd h List.not_mem_nil, (by unfold wsV; exact List.forall_mem_append.mpr ⟨List.forall_mem_cons.mpr ⟨List.mem_of_getElem? (i := 1797) (by decide +kernel), List.forall_mem_cons.mpr ⟨List.mem_of_getElem? (i := 1799) (by decide +kernel), List.forall_mem_cons.mpr ⟨List.mem_of_getElem? (i := 43) (by decide +kernel), List.forall_mem_cons.mpr ⟨List.mem_of_getElem? (i := 54) (by decide +kernel), fun _ h => absurd h List.not_mem_nil⟩⟩⟩⟩, i_c_X11_noStone⟩)⟩⟩
set_option maxHeartbeats 4000000 in
set_option maxRecDepth 100000 in
theorem c_X11_mark (l : Launch) (dC : Nat → ClassId) (dI : Nat → Nat → Nat) (e0 : Nat) (g0 : Nat) (p0 : Int32) (mj mq mm ms mf ml : Nat) (sz : Nat) : Met l yX11_mark v_c_X11_mark ({ frames := 3, cells := 0, slots := 0, locals := 67 }) (fz_P (dC, dI) e0 [(g0, .inr (16, [.ref mj, .ref mq, .ref mm, .ref ms, .ref mf, .ref ml, .int 0, .int 0, .int 1, .int 0, .int (-1), .int 0, .int 0, .int 0, .int 0, .int 0, .long 0])), (ms, .inr (4, [.int 0, .ref e0, .int 0]))] [] sz (va_A [(g0, .inr (16, [.ref mj, .ref mq, .ref mm, .ref ms, .ref mf, .ref ml, .int 0, .int 0, .int 1, .int 0, .int (-1), .int 0, .int 0, .int 0, .int 0, .int 0, .long 0])), (ms, .inr (4, [.int 0, .ref e0, .int 0]))] sz) [.ref g0, .int p0]) (va_Qi (fun (r : Int32) (u : Unit) => r = 0) (fun (u : Unit) (t : State) => va_P (dC, dI) vwCl [(g0, .inr (16, [.ref mj, .ref mq, .ref mm, .ref ms, .ref mf, .ref ml, .int 1, .int 0, .int 1, .int 0, .int (-1), .int 0, .int 0, .int 0, .int 0, .int 0, .long 0]))] t.heap ∧ va_K (dC, dI) vwCl [] t ∧ va_D (va_A [(g0, .inr (16, [.ref mj, .ref mq, .ref mm, .ref ms, .ref mf, .ref ml, .int 0, .int 0, .int 1, .int 0, .int (-1), .int 0, .int 0, .int 0, .int 0, .int 0, .long 0])), (ms, .inr (4, [.int 0, .ref e0, .int 0]))] sz) [(g0, .inr (16, [.ref mj, .ref mq, .ref mm, .ref ms, .ref mf, .ref ml, .int 1, .int 0, .int 1, .int 0, .int (-1), .int 0, .int 0, .int 0, .int 0, .int 0, .long 0]))]) (va_A [(g0, .inr (16, [.ref mj, .ref mq, .ref mm, .ref ms, .ref mf, .ref ml, .int 0, .int 0, .int 1, .int 0, .int (-1), .int 0, .int 0, .int 0, .int 0, .int 0, .long 0])), (ms, .inr (4, [.int 0, .ref e0, .int 0]))] sz)) 0 0 (va_A [(g0, .inr (16, [.ref mj, .ref mq, .ref mm, .ref ms, .ref mf, .ref ml, .int 0, .int 0, .int 1, .int 0, .int (-1), .int 0, .int 0, .int 0, .int 0, .int 0, .long 0])), (ms, .inr (4, [.int 0, .ref e0, .int 0]))] sz) := by
  refine Met.ofW (cc := cX11_mark) (maxL := 2) (ret := (some .int)) (by decide) rfl ?_
  intro p e s m args below meth c s₁ B hml hv
  obtain ⟨rfl, hsz, hP, hK, hD0, hAm⟩ := hv
  have hx := B.exec
  have hb := B.bytes
  have hr := B.returns
  have hts := atoms_spec (ws := v_c_X11_mark) B.pre
  have hown : s.vm.findClass RX11 = some m.cls := findClass_of_methodNamed B.named
  have hlocks := B.notSynchronized
  subst hsz
  have hD := hD0.self (sz := s.heap.size)
  generalize hAe : va_A [(g0, .inr (16, [.ref mj, .ref mq, .ref mm, .ref ms, .ref mf, .ref ml, .int 0, .int 0, .int 1, .int 0, .int (-1), .int 0, .int 0, .int 0, .int 0, .int 0, .long 0])), (ms, .inr (4, [.int 0, .ref e0, .int 0]))] s.heap.size = A at hD hAm ⊢
  have hA : ∀ q : Nat, s.heap.size ≤ q → A q := fun q h => by rw [← hAe]; exact Or.inr h
  have hS : va_S A s.heap s.heap [] := va_S.rf
  have hP : va_P (dC, dI) vwCl [(g0, .inr (16, [.ref mj, .ref mq, .ref mm, .ref ms, .ref mf, .ref ml, .int 0, .int 0, .int 1, .int 0, .int (-1), .int 0, .int 0, .int 0, .int 0, .int 0, .long 0])), (ms, .inr (4, [.int 0, .ref e0, .int 0]))] s.heap := hP
  have hl := lv_entry ([.ref g0, .int p0]) (n := 2) (Nat.le_of_ble_eq_true rfl)
  rw [lg_entry_eq]
  generalize (lg_sl ([.ref g0, .int p0]) ++ List.replicate (2 - (lg_sl ([.ref g0, .int p0])).length) Slot.unset).toArray = ls at hl ⊢
  have hl : lv_has ls 2 [(0, .ref g0), (1, .int p0)] := hl
  refine lv_aload_n hx hb dX11_mark_0 rfl (lv_at hl 0 rfl) ?_
  refine lv_iload_n hx hb dX11_mark_1 rfl (lv_at hl 1 rfl) ?_
  have hPc := hP.sub (ws' := [(g0, .inr (16, [.ref mj, .ref mq, .ref mm, .ref ms, .ref mf, .ref ml, .int 0, .int 0, .int 1, .int 0, .int (-1), .int 0, .int 0, .int 0, .int 0, .int 0, .long 0])), (ms, .inr (4, [.int 0, .ref e0, .int 0]))]) [0, 1] rfl
  have hDc := hD.sub (ws' := [(g0, .inr (16, [.ref mj, .ref mq, .ref mm, .ref ms, .ref mf, .ref ml, .int 0, .int 0, .int 1, .int 0, .int (-1), .int 0, .int 0, .int 0, .int 0, .int 0, .long 0])), (ms, .inr (4, [.int 0, .ref e0, .int 0]))]) [0, 1] (by decide) rfl
  have hKc := hK.sub (tys' := []) [] rfl
  have hFc := va_free (wc := [(g0, .inr (16, [.ref mj, .ref mq, .ref mm, .ref ms, .ref mf, .ref ml, .int 0, .int 0, .int 1, .int 0, .int (-1), .int 0, .int 0, .int 0, .int 0, .int 0, .long 0])), (ms, .inr (4, [.int 0, .ref e0, .int 0]))]) hD hS hA [0, 1] rfl
  refine va_calli (va_runV (As := [.int p0]) (rest := []) ⟨hx, hb, hml, hown, hts⟩ (c_X11_noStone l dC dI e0 g0 p0 mj mq mm ms mf ml 0 s.heap.size) (cwV 1 hts (goodIn_sub (fun _ h9 => List.mem_cons_of_mem _ (List.mem_append_right _ (h9))) (by decide +kernel)) rfl rfl rfl (by decide +kernel) ⟨(Nat.le_of_ble_eq_true rfl), (Nat.le_of_ble_eq_true rfl)⟩) ⟨fz_blind, va_recv hKc hPc (ci := 16) (q0 := 0) rfl rfl, fz_pre hPc hKc hDc hAm hS hFc⟩ rfl rfl hl.1 rfl (lv_room (Nat.le_of_ble_eq_true rfl)) dX11_mark_2 ⟨(Nat.le_of_ble_eq_true rfl), (Nat.le_of_ble_eq_true rfl)⟩) hS (fun q _ h => hFc q h) hFc (fun r u t H1 locs ht hvm hw hB hz1 hk1 hS => ?_)
  obtain rfl := hw
  obtain ⟨hP1, hK1, hD1⟩ := hB
  rw [ht] at hP1
  have hK1 := va_K.moved hvm.symm hK1
  obtain ⟨hP, hD⟩ := va_join (wr := []) (w1 := [(g0, .inr (16, [.ref mj, .ref mq, .ref mm, .ref ms, .ref mf, .ref ml, .int 1, .int 0, .int 1, .int 0, .int (-1), .int 0, .int 0, .int 0, .int 0, .int 0, .long 0]))]) hP hD [0, 1] [] rfl rfl (by decide) (by decide) hk1 hFc hP1 hD1
  generalize H1 = H at hP hS ⊢
  have hP : va_P (dC, dI) vwCl [(g0, .inr (16, [.ref mj, .ref mq, .ref mm, .ref ms, .ref mf, .ref ml, .int 1, .int 0, .int 1, .int 0, .int (-1), .int 0, .int 0, .int 0, .int 0, .int 0, .long 0]))] H := hP
  have hD : va_D A [(g0, .inr (16, [.ref mj, .ref mq, .ref mm, .ref ms, .ref mf, .ref ml, .int 1, .int 0, .int 1, .int 0, .int (-1), .int 0, .int 0, .int 0, .int 0, .int 0, .long 0]))] := hD
  have hK : va_K (dC, dI) vwCl [] s := hK
  refine W.widen (k := 0) (n := 0) (Nat.le_of_ble_eq_true rfl) (Nat.le_of_ble_eq_true rfl) ?_
  refine lv_if_eq (tgt := 12) hx hb dX11_mark_5 (by decide) (fun c_9 => absurd c_9 (by decide)) (fun _ => ?_)
  refine lv_iconst (v := 0) hx hb dX11_mark_8 (by decide) ?_
  refine lv_goto (tgt := 31) hx hb dX11_mark_9 (by decide) ?_
  have hP9 := hP.sub (ws' := [(g0, .inr (16, [.ref mj, .ref mq, .ref mm, .ref ms, .ref mf, .ref ml, .int 1, .int 0, .int 1, .int 0, .int (-1), .int 0, .int 0, .int 0, .int 0, .int 0, .long 0]))]) [0] rfl
  have hD9 := hD.sub (ws' := [(g0, .inr (16, [.ref mj, .ref mq, .ref mm, .ref ms, .ref mf, .ref ml, .int 1, .int 0, .int 1, .int 0, .int (-1), .int 0, .int 0, .int 0, .int 0, .int 0, .long 0]))]) [0] (by decide) rfl
  have hK9 := hK.sub (tys' := []) [] rfl
  refine W.widen (k := 0) (n := 0) (Nat.le_of_ble_eq_true rfl) (Nat.le_of_ble_eq_true rfl) ?_
  exact W.iret (v := 0) hx hb hr (fun t ht hW => ⟨⟨0, (), rfl, rfl, ⟨by rw [ht]; exact hP9, va_K.moved hW.alike hK9, hD9⟩⟩, hS.F ht⟩) hS.2.2 dX11_mark_31
def v_c_X11_stateOf : List Cond := .code yX11_stateOf cX11_stateOf 2 (some .char) :: ([] ++ (wsV RX11 290 RX11 yX11_noStone v_c_X11_noStone))
set_option maxRecDepth 20000 in
theorem i_c_X11_stateOf : ∀ w ∈ v_c_X11_stateOf, w ∈ lw_tbl := List.forall_mem_cons.mpr ⟨List.mem_of_getElem? (i := 1808) (by decide +kernel), List.forall_mem_append.mpr ⟨fun _ h => absurd h List.not_mem_nil, (by unfold wsV; exact List.forall_mem_append.mpr ⟨List.forall_mem_cons.mpr ⟨List.mem_of_getElem? (i := 1797) (by decide +kernel), List.forall_mem_cons.mpr ⟨List.mem_of_getElem? (i := 1799) (by decide +kernel), List.forall_mem_cons.mpr ⟨List.mem_of_getElem? (i := 43) (by decide +kernel), List.forall_mem_cons.mpr ⟨List.mem_of_getElem? (i := 54) (by decide +kernel), fun _ h => absurd h List.not_mem_nil⟩⟩⟩⟩, i_c_X11_noStone⟩)⟩⟩
set_option maxHeartbeats 4000000 in
set_option maxRecDepth 100000 in
theorem c_X11_stateOf (l : Launch) (dC : Nat → ClassId) (dI : Nat → Nat → Nat) (e0 : Nat) (g0 : Nat) (p0 : Int32) (mj mq mm ms mf ml : Nat) (sz : Nat) : Met l yX11_stateOf v_c_X11_stateOf ({ frames := 3, cells := 0, slots := 0, locals := 67 }) (fz_P (dC, dI) e0 [(g0, .inr (16, [.ref mj, .ref mq, .ref mm, .ref ms, .ref mf, .ref ml, .int 0, .int 0, .int 1, .int 0, .int (-1), .int 0, .int 0, .int 0, .int 0, .int 0, .long 0])), (ms, .inr (4, [.int 0, .ref e0, .int 0]))] [] sz (va_A [(g0, .inr (16, [.ref mj, .ref mq, .ref mm, .ref ms, .ref mf, .ref ml, .int 0, .int 0, .int 1, .int 0, .int (-1), .int 0, .int 0, .int 0, .int 0, .int 0, .long 0])), (ms, .inr (4, [.int 0, .ref e0, .int 0]))] sz) [.ref g0, .int p0]) (va_Qi (fun (r : Int32) (u : Unit) => r = 99) (fun (u : Unit) (t : State) => va_P (dC, dI) vwCl [(g0, .inr (16, [.ref mj, .ref mq, .ref mm, .ref ms, .ref mf, .ref ml, .int 1, .int 0, .int 1, .int 0, .int (-1), .int 0, .int 0, .int 0, .int 0, .int 0, .long 0]))] t.heap ∧ va_K (dC, dI) vwCl [] t ∧ va_D (va_A [(g0, .inr (16, [.ref mj, .ref mq, .ref mm, .ref ms, .ref mf, .ref ml, .int 0, .int 0, .int 1, .int 0, .int (-1), .int 0, .int 0, .int 0, .int 0, .int 0, .long 0])), (ms, .inr (4, [.int 0, .ref e0, .int 0]))] sz) [(g0, .inr (16, [.ref mj, .ref mq, .ref mm, .ref ms, .ref mf, .ref ml, .int 1, .int 0, .int 1, .int 0, .int (-1), .int 0, .int 0, .int 0, .int 0, .int 0, .long 0]))]) (va_A [(g0, .inr (16, [.ref mj, .ref mq, .ref mm, .ref ms, .ref mf, .ref ml, .int 0, .int 0, .int 1, .int 0, .int (-1), .int 0, .int 0, .int 0, .int 0, .int 0, .long 0])), (ms, .inr (4, [.int 0, .ref e0, .int 0]))] sz)) 0 0 (va_A [(g0, .inr (16, [.ref mj, .ref mq, .ref mm, .ref ms, .ref mf, .ref ml, .int 0, .int 0, .int 1, .int 0, .int (-1), .int 0, .int 0, .int 0, .int 0, .int 0, .long 0])), (ms, .inr (4, [.int 0, .ref e0, .int 0]))] sz) := by
  refine Met.ofW (cc := cX11_stateOf) (maxL := 2) (ret := (some .char)) (by decide) rfl ?_
  intro p e s m args below meth c s₁ B hml hv
  obtain ⟨rfl, hsz, hP, hK, hD0, hAm⟩ := hv
  have hx := B.exec
  have hb := B.bytes
  have hr := B.returns
  have hts := atoms_spec (ws := v_c_X11_stateOf) B.pre
  have hown : s.vm.findClass RX11 = some m.cls := findClass_of_methodNamed B.named
  have hlocks := B.notSynchronized
  subst hsz
  have hD := hD0.self (sz := s.heap.size)
  generalize hAe : va_A [(g0, .inr (16, [.ref mj, .ref mq, .ref mm, .ref ms, .ref mf, .ref ml, .int 0, .int 0, .int 1, .int 0, .int (-1), .int 0, .int 0, .int 0, .int 0, .int 0, .long 0])), (ms, .inr (4, [.int 0, .ref e0, .int 0]))] s.heap.size = A at hD hAm ⊢
  have hA : ∀ q : Nat, s.heap.size ≤ q → A q := fun q h => by rw [← hAe]; exact Or.inr h
  have hS : va_S A s.heap s.heap [] := va_S.rf
  have hP : va_P (dC, dI) vwCl [(g0, .inr (16, [.ref mj, .ref mq, .ref mm, .ref ms, .ref mf, .ref ml, .int 0, .int 0, .int 1, .int 0, .int (-1), .int 0, .int 0, .int 0, .int 0, .int 0, .long 0])), (ms, .inr (4, [.int 0, .ref e0, .int 0]))] s.heap := hP
  have hl := lv_entry ([.ref g0, .int p0]) (n := 2) (Nat.le_of_ble_eq_true rfl)
  rw [lg_entry_eq]
  generalize (lg_sl ([.ref g0, .int p0]) ++ List.replicate (2 - (lg_sl ([.ref g0, .int p0])).length) Slot.unset).toArray = ls at hl ⊢
  have hl : lv_has ls 2 [(0, .ref g0), (1, .int p0)] := hl
  refine lv_aload_n hx hb dX11_stateOf_0 rfl (lv_at hl 0 rfl) ?_
  refine lv_iload_n hx hb dX11_stateOf_1 rfl (lv_at hl 1 rfl) ?_
  have hPc := hP.sub (ws' := [(g0, .inr (16, [.ref mj, .ref mq, .ref mm, .ref ms, .ref mf, .ref ml, .int 0, .int 0, .int 1, .int 0, .int (-1), .int 0, .int 0, .int 0, .int 0, .int 0, .long 0])), (ms, .inr (4, [.int 0, .ref e0, .int 0]))]) [0, 1] rfl
  have hDc := hD.sub (ws' := [(g0, .inr (16, [.ref mj, .ref mq, .ref mm, .ref ms, .ref mf, .ref ml, .int 0, .int 0, .int 1, .int 0, .int (-1), .int 0, .int 0, .int 0, .int 0, .int 0, .long 0])), (ms, .inr (4, [.int 0, .ref e0, .int 0]))]) [0, 1] (by decide) rfl
  have hKc := hK.sub (tys' := []) [] rfl
  have hFc := va_free (wc := [(g0, .inr (16, [.ref mj, .ref mq, .ref mm, .ref ms, .ref mf, .ref ml, .int 0, .int 0, .int 1, .int 0, .int (-1), .int 0, .int 0, .int 0, .int 0, .int 0, .long 0])), (ms, .inr (4, [.int 0, .ref e0, .int 0]))]) hD hS hA [0, 1] rfl
  refine va_calli (va_runV (As := [.int p0]) (rest := []) ⟨hx, hb, hml, hown, hts⟩ (c_X11_noStone l dC dI e0 g0 p0 mj mq mm ms mf ml 0 s.heap.size) (cwV 1 hts (goodIn_sub (fun _ h9 => List.mem_cons_of_mem _ (List.mem_append_right _ (h9))) (by decide +kernel)) rfl rfl rfl (by decide +kernel) ⟨(Nat.le_of_ble_eq_true rfl), (Nat.le_of_ble_eq_true rfl)⟩) ⟨fz_blind, va_recv hKc hPc (ci := 16) (q0 := 0) rfl rfl, fz_pre hPc hKc hDc hAm hS hFc⟩ rfl rfl hl.1 rfl (lv_room (Nat.le_of_ble_eq_true rfl)) dX11_stateOf_2 ⟨(Nat.le_of_ble_eq_true rfl), (Nat.le_of_ble_eq_true rfl)⟩) hS (fun q _ h => hFc q h) hFc (fun r u t H1 locs ht hvm hw hB hz1 hk1 hS => ?_)
  obtain rfl := hw
  obtain ⟨hP1, hK1, hD1⟩ := hB
  rw [ht] at hP1
  have hK1 := va_K.moved hvm.symm hK1
  obtain ⟨hP, hD⟩ := va_join (wr := []) (w1 := [(g0, .inr (16, [.ref mj, .ref mq, .ref mm, .ref ms, .ref mf, .ref ml, .int 1, .int 0, .int 1, .int 0, .int (-1), .int 0, .int 0, .int 0, .int 0, .int 0, .long 0]))]) hP hD [0, 1] [] rfl rfl (by decide) (by decide) hk1 hFc hP1 hD1
  generalize H1 = H at hP hS ⊢
  have hP : va_P (dC, dI) vwCl [(g0, .inr (16, [.ref mj, .ref mq, .ref mm, .ref ms, .ref mf, .ref ml, .int 1, .int 0, .int 1, .int 0, .int (-1), .int 0, .int 0, .int 0, .int 0, .int 0, .long 0]))] H := hP
  have hD : va_D A [(g0, .inr (16, [.ref mj, .ref mq, .ref mm, .ref ms, .ref mf, .ref ml, .int 1, .int 0, .int 1, .int 0, .int (-1), .int 0, .int 0, .int 0, .int 0, .int 0, .long 0]))] := hD
  have hK : va_K (dC, dI) vwCl [] s := hK
  refine W.widen (k := 0) (n := 0) (Nat.le_of_ble_eq_true rfl) (Nat.le_of_ble_eq_true rfl) ?_
  refine lv_if_eq (tgt := 13) hx hb dX11_stateOf_5 (by decide) (fun c_9 => absurd c_9 (by decide)) (fun _ => ?_)
  refine lv_bipush (v := 99) hx hb dX11_stateOf_8 (by decide) ?_
  refine lv_goto (tgt := 18) hx hb dX11_stateOf_10 (by decide) ?_
  have hP9 := hP.sub (ws' := [(g0, .inr (16, [.ref mj, .ref mq, .ref mm, .ref ms, .ref mf, .ref ml, .int 1, .int 0, .int 1, .int 0, .int (-1), .int 0, .int 0, .int 0, .int 0, .int 0, .long 0]))]) [0] rfl
  have hD9 := hD.sub (ws' := [(g0, .inr (16, [.ref mj, .ref mq, .ref mm, .ref ms, .ref mf, .ref ml, .int 1, .int 0, .int 1, .int 0, .int (-1), .int 0, .int 0, .int 0, .int 0, .int 0, .long 0]))]) [0] (by decide) rfl
  have hK9 := hK.sub (tys' := []) [] rfl
  refine W.widen (k := 0) (n := 0) (Nat.le_of_ble_eq_true rfl) (Nat.le_of_ble_eq_true rfl) ?_
  exact W.zret (v := 99) hx hb hr rfl (fun t ht hW => ⟨⟨99, (), rfl, rfl, ⟨by rw [ht]; exact hP9, va_K.moved hW.alike hK9, hD9⟩⟩, hS.F ht⟩) hS.2.2 dX11_stateOf_18
def v_c_X11_markAt : List Cond := .code yX11_markAt cX11_markAt 3 (some .char) :: ([] ++ (wsV RX11 287 RX11 yX11_isStone v_c_X11_isStone ++ (wsV RX11 65 RX11 yX11_no v_c_X11_no0)))
set_option maxRecDepth 20000 in
theorem i_c_X11_markAt : ∀ w ∈ v_c_X11_markAt, w ∈ lw_tbl := List.forall_mem_cons.mpr ⟨List.mem_of_getElem? (i := 1821) (by decide +kernel), List.forall_mem_append.mpr ⟨fun _ h => absurd h List.not_mem_nil, List.forall_mem_append.mpr ⟨(by unfold wsV; exact List.forall_mem_append.mpr ⟨List.forall_mem_cons.mpr ⟨List.mem_of_getElem? (i := 1801) (by decide +kernel), List.forall_mem_cons.mpr ⟨List.mem_of_getElem? (i := 1803) (by decide +kernel), List.forall_mem_cons.mpr ⟨List.mem_of_getElem? (i := 44) (by decide +kernel), List.forall_mem_cons.mpr ⟨List.mem_of_getElem? (i := 54) (by decide +kernel), fun _ h => absurd h List.not_mem_nil⟩⟩⟩⟩, i_c_X11_isStone⟩), (by unfold wsV; exact List.forall_mem_append.mpr ⟨List.forall_mem_cons.mpr ⟨List.mem_of_getElem? (i := 1434) (by decide +kernel), List.forall_mem_cons.mpr ⟨List.mem_of_getElem? (i := 1436) (by decide +kernel), List.forall_mem_cons.mpr ⟨List.mem_of_getElem? (i := 25) (by decide +kernel), List.forall_mem_cons.mpr ⟨List.mem_of_getElem? (i := 54) (by decide +kernel), fun _ h => absurd h List.not_mem_nil⟩⟩⟩⟩, i_c_X11_no0⟩)⟩⟩⟩
set_option maxHeartbeats 4000000 in
set_option maxRecDepth 100000 in
theorem c_X11_markAt (l : Launch) (dC : Nat → ClassId) (dI : Nat → Nat → Nat) (e0 : Nat) (g0 : Nat) (p0 p1 : Int32) (mj mq mm ms mf ml : Nat) (sz : Nat) : Met l yX11_markAt v_c_X11_markAt ({ frames := 2, cells := 0, slots := 0, locals := 46 }) (fz_P (dC, dI) e0 [(g0, .inr (16, [.ref mj, .ref mq, .ref mm, .ref ms, .ref mf, .ref ml, .int 0, .int 0, .int 1, .int 0, .int (-1), .int 0, .int 0, .int 0, .int 0, .int 0, .long 0])), (ms, .inr (4, [.int 0, .ref e0, .int 0]))] [] sz (va_A [(g0, .inr (16, [.ref mj, .ref mq, .ref mm, .ref ms, .ref mf, .ref ml, .int 0, .int 0, .int 1, .int 0, .int (-1), .int 0, .int 0, .int 0, .int 0, .int 0, .long 0])), (ms, .inr (4, [.int 0, .ref e0, .int 0]))] sz) [.ref g0, .int p0, .int p1]) (va_Qi (fun (r : Int32) (u : Unit) => r = 65) (fun (u : Unit) (t : State) => va_P (dC, dI) vwCl [(g0, .inr (16, [.ref mj, .ref mq, .ref mm, .ref ms, .ref mf, .ref ml, .int 1, .int 0, .int 1, .int 0, .int (-1), .int 0, .int 0, .int 0, .int 0, .int 0, .long 0]))] t.heap ∧ va_K (dC, dI) vwCl [] t ∧ va_D (va_A [(g0, .inr (16, [.ref mj, .ref mq, .ref mm, .ref ms, .ref mf, .ref ml, .int 0, .int 0, .int 1, .int 0, .int (-1), .int 0, .int 0, .int 0, .int 0, .int 0, .long 0])), (ms, .inr (4, [.int 0, .ref e0, .int 0]))] sz) [(g0, .inr (16, [.ref mj, .ref mq, .ref mm, .ref ms, .ref mf, .ref ml, .int 1, .int 0, .int 1, .int 0, .int (-1), .int 0, .int 0, .int 0, .int 0, .int 0, .long 0]))]) (va_A [(g0, .inr (16, [.ref mj, .ref mq, .ref mm, .ref ms, .ref mf, .ref ml, .int 0, .int 0, .int 1, .int 0, .int (-1), .int 0, .int 0, .int 0, .int 0, .int 0, .long 0])), (ms, .inr (4, [.int 0, .ref e0, .int 0]))] sz)) 0 0 (va_A [(g0, .inr (16, [.ref mj, .ref mq, .ref mm, .ref ms, .ref mf, .ref ml, .int 0, .int 0, .int 1, .int 0, .int (-1), .int 0, .int 0, .int 0, .int 0, .int 0, .long 0])), (ms, .inr (4, [.int 0, .ref e0, .int 0]))] sz) := by
  refine Met.ofW (cc := cX11_markAt) (maxL := 3) (ret := (some .char)) (by decide) rfl ?_
  intro p e s m args below meth c s₁ B hml hv
  obtain ⟨rfl, hsz, hP, hK, hD0, hAm⟩ := hv
  have hx := B.exec
  have hb := B.bytes
  have hr := B.returns
  have hts := atoms_spec (ws := v_c_X11_markAt) B.pre
  have hown : s.vm.findClass RX11 = some m.cls := findClass_of_methodNamed B.named
  have hlocks := B.notSynchronized
  subst hsz
  have hD := hD0.self (sz := s.heap.size)
  generalize hAe : va_A [(g0, .inr (16, [.ref mj, .ref mq, .ref mm, .ref ms, .ref mf, .ref ml, .int 0, .int 0, .int 1, .int 0, .int (-1), .int 0, .int 0, .int 0, .int 0, .int 0, .long 0])), (ms, .inr (4, [.int 0, .ref e0, .int 0]))] s.heap.size = A at hD hAm ⊢
  have hA : ∀ q : Nat, s.heap.size ≤ q → A q := fun q h => by rw [← hAe]; exact Or.inr h
  have hS : va_S A s.heap s.heap [] := va_S.rf
  have hP : va_P (dC, dI) vwCl [(g0, .inr (16, [.ref mj, .ref mq, .ref mm, .ref ms, .ref mf, .ref ml, .int 0, .int 0, .int 1, .int 0, .int (-1), .int 0, .int 0, .int 0, .int 0, .int 0, .long 0])), (ms, .inr (4, [.int 0, .ref e0, .int 0]))] s.heap := hP
  have hl := lv_entry ([.ref g0, .int p0, .int p1]) (n := 3) (Nat.le_of_ble_eq_true rfl)
  rw [lg_entry_eq]
  generalize (lg_sl ([.ref g0, .int p0, .int p1]) ++ List.replicate (3 - (lg_sl ([.ref g0, .int p0, .int p1])).length) Slot.unset).toArray = ls at hl ⊢
  have hl : lv_has ls 3 [(0, .ref g0), (1, .int p0), (2, .int p1)] := hl
  refine lv_aload_n hx hb dX11_markAt_0 rfl (lv_at hl 0 rfl) ?_
  refine lv_aload_n hx hb dX11_markAt_1 rfl (lv_at hl 0 rfl) ?_
  refine lv_iload_n hx hb dX11_markAt_2 rfl (lv_at hl 1 rfl) ?_
  have hPc := hP.sub (ws' := [(g0, .inr (16, [.ref mj, .ref mq, .ref mm, .ref ms, .ref mf, .ref ml, .int 0, .int 0, .int 1, .int 0, .int (-1), .int 0, .int 0, .int 0, .int 0, .int 0, .long 0])), (ms, .inr (4, [.int 0, .ref e0, .int 0]))]) [0, 1] rfl
  have hDc := hD.sub (ws' := [(g0, .inr (16, [.ref mj, .ref mq, .ref mm, .ref ms, .ref mf, .ref ml, .int 0, .int 0, .int 1, .int 0, .int (-1), .int 0, .int 0, .int 0, .int 0, .int 0, .long 0])), (ms, .inr (4, [.int 0, .ref e0, .int 0]))]) [0, 1] (by decide) rfl
  have hKc := hK.sub (tys' := []) [] rfl
  have hFc : ∀ q : Nat, s.heap.size ≤ q → A q := fun q h => hA q (Nat.le_trans hS.1 h)
  refine va_calli (va_runV (As := [.int p0]) (rest := [.ref g0]) ⟨hx, hb, hml, hown, hts⟩ (c_X11_isStone l dC dI e0 g0 p0 mj mq mm ms mf ml 0 s.heap.size) (cwV 1 hts (goodIn_sub (fun _ h9 => List.mem_cons_of_mem _ (List.mem_append_right _ (List.mem_append_left _ h9))) (by decide +kernel)) rfl rfl rfl (by decide +kernel) ⟨(Nat.le_of_ble_eq_true rfl), (Nat.le_of_ble_eq_true rfl)⟩) ⟨fz_blind, va_recv hKc hPc (ci := 16) (q0 := 0) rfl rfl, fz_pre hPc hKc hDc hAm hS hFc⟩ rfl rfl hl.1 rfl (lv_room (Nat.le_of_ble_eq_true rfl)) dX11_markAt_3 ⟨(Nat.le_of_ble_eq_true rfl), (Nat.le_of_ble_eq_true rfl)⟩) hS (fun q _ h => hFc q h) hFc (fun r u t H1 locs ht hvm hw hB hz1 hk1 hS => ?_)
  obtain rfl := hw
  have hP := fz_keep hP hk1
  generalize H1 = H at hP hS ⊢
  have hP : va_P (dC, dI) vwCl [(g0, .inr (16, [.ref mj, .ref mq, .ref mm, .ref ms, .ref mf, .ref ml, .int 0, .int 0, .int 1, .int 0, .int (-1), .int 0, .int 0, .int 0, .int 0, .int 0, .long 0])), (ms, .inr (4, [.int 0, .ref e0, .int 0]))] H := hP
  have hD : va_D A [(g0, .inr (16, [.ref mj, .ref mq, .ref mm, .ref ms, .ref mf, .ref ml, .int 0, .int 0, .int 1, .int 0, .int (-1), .int 0, .int 0, .int 0, .int 0, .int 0, .long 0])), (ms, .inr (4, [.int 0, .ref e0, .int 0]))] := hD
  refine W.widen (k := 0) (n := 0) (Nat.le_of_ble_eq_true rfl) (Nat.le_of_ble_eq_true rfl) ?_
  refine lv_if_eq (tgt := 44) hx hb dX11_markAt_6 (by decide) (fun _ => ?_) (fun c_9 => absurd (by decide) c_9)
  refine lv_iconst (v := 0) hx hb dX11_markAt_44 (by decide) ?_
  refine lv_iconst (v := 1) hx hb dX11_markAt_45 (by decide) ?_
  have hPc := hP.sub (ws' := [(g0, .inr (16, [.ref mj, .ref mq, .ref mm, .ref ms, .ref mf, .ref ml, .int 0, .int 0, .int 1, .int 0, .int (-1), .int 0, .int 0, .int 0, .int 0, .int 0, .long 0]))]) [0] rfl
  have hDc := hD.sub (ws' := [(g0, .inr (16, [.ref mj, .ref mq, .ref mm, .ref ms, .ref mf, .ref ml, .int 0, .int 0, .int 1, .int 0, .int (-1), .int 0, .int 0, .int 0, .int 0, .int 0, .long 0]))]) [0] (by decide) rfl
  have hKc := hK.sub (tys' := []) [] rfl
  have hFc := va_free (wc := [(g0, .inr (16, [.ref mj, .ref mq, .ref mm, .ref ms, .ref mf, .ref ml, .int 0, .int 0, .int 1, .int 0, .int (-1), .int 0, .int 0, .int 0, .int 0, .int 0, .long 0]))]) hD hS hA [0] rfl
  refine va_calli (va_runV (As := [.int 0, .int 1]) (rest := []) ⟨hx, hb, hml, hown, hts⟩ (c_X11_no0 l dC dI e0 g0 1 mj mq mm ms mf ml 0 H.size) (cwV 2 hts (goodIn_sub (fun _ h9 => List.mem_cons_of_mem _ (List.mem_append_right _ (List.mem_append_right _ h9))) (by decide +kernel)) rfl rfl rfl (by decide +kernel) ⟨(Nat.le_of_ble_eq_true rfl), (Nat.le_of_ble_eq_true rfl)⟩) ⟨fz_blind, va_recv hKc hPc (ci := 16) (q0 := 0) rfl rfl, fz_pre hPc hKc hDc hAm hS hFc⟩ rfl rfl hl.1 rfl (lv_room (Nat.le_of_ble_eq_true rfl)) dX11_markAt_46 ⟨(Nat.le_of_ble_eq_true rfl), (Nat.le_of_ble_eq_true rfl)⟩) hS (fun q _ h => hFc q h) hFc (fun r u t H1 locs ht hvm hw hB hz1 hk1 hS => ?_)
  obtain rfl := hw
  obtain ⟨hP1, hK1, hD1⟩ := hB
  rw [ht] at hP1
  have hK1 := va_K.moved hvm.symm hK1
  obtain ⟨hP, hD⟩ := va_join (wr := [(ms, .inr (4, [.int 0, .ref e0, .int 0]))]) (w1 := [(g0, .inr (16, [.ref mj, .ref mq, .ref mm, .ref ms, .ref mf, .ref ml, .int 1, .int 0, .int 1, .int 0, .int (-1), .int 0, .int 0, .int 0, .int 0, .int 0, .long 0]))]) hP hD [0] [1] rfl rfl (by decide) (by decide) hk1 hFc hP1 hD1
  generalize H1 = H at hP hS ⊢
  have hP : va_P (dC, dI) vwCl [(ms, .inr (4, [.int 0, .ref e0, .int 0])), (g0, .inr (16, [.ref mj, .ref mq, .ref mm, .ref ms, .ref mf, .ref ml, .int 1, .int 0, .int 1, .int 0, .int (-1), .int 0, .int 0, .int 0, .int 0, .int 0, .long 0]))] H := hP
  have hD : va_D A [(ms, .inr (4, [.int 0, .ref e0, .int 0])), (g0, .inr (16, [.ref mj, .ref mq, .ref mm, .ref ms, .ref mf, .ref ml, .int 1, .int 0, .int 1, .int 0, .int (-1), .int 0, .int 0, .int 0, .int 0, .int 0, .long 0]))] := hD
  have hK : va_K (dC, dI) vwCl [] s := hK
  refine W.widen (k := 0) (n := 0) (Nat.le_of_ble_eq_true rfl) (Nat.le_of_ble_eq_true rfl) ?_
  refine lv_if_eq (tgt := 57) hx hb dX11_markAt_49 (by decide) (fun c_9 => absurd c_9 (by decide)) (fun _ => ?_)
  refine lv_bipush (v := 65) hx hb dX11_markAt_52 (by decide) ?_
  refine lv_goto (tgt := 77) hx hb dX11_markAt_54 (by decide) ?_
  have hP9 := hP.sub (ws' := [(g0, .inr (16, [.ref mj, .ref mq, .ref mm, .ref ms, .ref mf, .ref ml, .int 1, .int 0, .int 1, .int 0, .int (-1), .int 0, .int 0, .int 0, .int 0, .int 0, .long 0]))]) [1] rfl
  have hD9 := hD.sub (ws' := [(g0, .inr (16, [.ref mj, .ref mq, .ref mm, .ref ms, .ref mf, .ref ml, .int 1, .int 0, .int 1, .int 0, .int (-1), .int 0, .int 0, .int 0, .int 0, .int 0, .long 0]))]) [1] (by decide) rfl
  have hK9 := hK.sub (tys' := []) [] rfl
  refine W.widen (k := 0) (n := 0) (Nat.le_of_ble_eq_true rfl) (Nat.le_of_ble_eq_true rfl) ?_
  exact W.zret (v := 65) hx hb hr rfl (fun t ht hW => ⟨⟨65, (), rfl, rfl, ⟨by rw [ht]; exact hP9, va_K.moved hW.alike hK9, hD9⟩⟩, hS.F ht⟩) hS.2.2 dX11_markAt_77
def v_c_X11_fits : List Cond := .code yX11_fits cX11_fits 3 (some .boolean) :: ([] ++ (wsV RX11 287 RX11 yX11_isStone v_c_X11_isStone ++ (wsV RX11 65 RX11 yX11_no v_c_X11_no0)))
set_option maxRecDepth 20000 in
theorem i_c_X11_fits : ∀ w ∈ v_c_X11_fits, w ∈ lw_tbl := List.forall_mem_cons.mpr ⟨List.mem_of_getElem? (i := 1826) (by decide +kernel), List.forall_mem_append.mpr ⟨fun _ h => absurd h List.not_mem_nil, List.forall_mem_append.mpr ⟨(by unfold wsV; exact List.forall_mem_append.mpr ⟨List.forall_mem_cons.mpr ⟨List.mem_of_getElem? (i := 1801) (by decide +kernel), List.forall_mem_cons.mpr ⟨List.mem_of_getElem? (i := 1803) (by decide +kernel), List.forall_mem_cons.mpr ⟨List.mem_of_getElem? (i := 44) (by decide +kernel), List.forall_mem_cons.mpr ⟨List.mem_of_getElem? (i := 54) (by decide +kernel), fun _ h => absurd h List.not_mem_nil⟩⟩⟩⟩, i_c_X11_isStone⟩), (by unfold wsV; exact List.forall_mem_append.mpr ⟨List.forall_mem_cons.mpr ⟨List.mem_of_getElem? (i := 1434) (by decide +kernel), List.forall_mem_cons.mpr ⟨List.mem_of_getElem? (i := 1436) (by decide +kernel), List.forall_mem_cons.mpr ⟨List.mem_of_getElem? (i := 25) (by decide +kernel), List.forall_mem_cons.mpr ⟨List.mem_of_getElem? (i := 54) (by decide +kernel), fun _ h => absurd h List.not_mem_nil⟩⟩⟩⟩, i_c_X11_no0⟩)⟩⟩⟩
set_option maxHeartbeats 4000000 in
set_option maxRecDepth 100000 in
theorem c_X11_fits (l : Launch) (dC : Nat → ClassId) (dI : Nat → Nat → Nat) (e0 : Nat) (g0 : Nat) (p0 p1 : Int32) (mj mq mm ms mf ml : Nat) (sz : Nat) : Met l yX11_fits v_c_X11_fits ({ frames := 2, cells := 0, slots := 0, locals := 46 }) (fz_P (dC, dI) e0 [(g0, .inr (16, [.ref mj, .ref mq, .ref mm, .ref ms, .ref mf, .ref ml, .int 0, .int 0, .int 1, .int 0, .int (-1), .int 0, .int 0, .int 0, .int 0, .int 0, .long 0])), (ms, .inr (4, [.int 0, .ref e0, .int 0]))] [] sz (va_A [(g0, .inr (16, [.ref mj, .ref mq, .ref mm, .ref ms, .ref mf, .ref ml, .int 0, .int 0, .int 1, .int 0, .int (-1), .int 0, .int 0, .int 0, .int 0, .int 0, .long 0])), (ms, .inr (4, [.int 0, .ref e0, .int 0]))] sz) [.ref g0, .int p0, .int p1]) (va_Qi (fun (r : Int32) (u : Unit) => r = 0) (fun (u : Unit) (t : State) => va_P (dC, dI) vwCl [(g0, .inr (16, [.ref mj, .ref mq, .ref mm, .ref ms, .ref mf, .ref ml, .int 1, .int 0, .int 1, .int 0, .int (-1), .int 0, .int 0, .int 0, .int 0, .int 0, .long 0]))] t.heap ∧ va_K (dC, dI) vwCl [] t ∧ va_D (va_A [(g0, .inr (16, [.ref mj, .ref mq, .ref mm, .ref ms, .ref mf, .ref ml, .int 0, .int 0, .int 1, .int 0, .int (-1), .int 0, .int 0, .int 0, .int 0, .int 0, .long 0])), (ms, .inr (4, [.int 0, .ref e0, .int 0]))] sz) [(g0, .inr (16, [.ref mj, .ref mq, .ref mm, .ref ms, .ref mf, .ref ml, .int 1, .int 0, .int 1, .int 0, .int (-1), .int 0, .int 0, .int 0, .int 0, .int 0, .long 0]))]) (va_A [(g0, .inr (16, [.ref mj, .ref mq, .ref mm, .ref ms, .ref mf, .ref ml, .int 0, .int 0, .int 1, .int 0, .int (-1), .int 0, .int 0, .int 0, .int 0, .int 0, .long 0])), (ms, .inr (4, [.int 0, .ref e0, .int 0]))] sz)) 0 0 (va_A [(g0, .inr (16, [.ref mj, .ref mq, .ref mm, .ref ms, .ref mf, .ref ml, .int 0, .int 0, .int 1, .int 0, .int (-1), .int 0, .int 0, .int 0, .int 0, .int 0, .long 0])), (ms, .inr (4, [.int 0, .ref e0, .int 0]))] sz) := by
  refine Met.ofW (cc := cX11_fits) (maxL := 3) (ret := (some .boolean)) (by decide) rfl ?_
  intro p e s m args below meth c s₁ B hml hv
  obtain ⟨rfl, hsz, hP, hK, hD0, hAm⟩ := hv
  have hx := B.exec
  have hb := B.bytes
  have hr := B.returns
  have hts := atoms_spec (ws := v_c_X11_fits) B.pre
  have hown : s.vm.findClass RX11 = some m.cls := findClass_of_methodNamed B.named
  have hlocks := B.notSynchronized
  subst hsz
  have hD := hD0.self (sz := s.heap.size)
  generalize hAe : va_A [(g0, .inr (16, [.ref mj, .ref mq, .ref mm, .ref ms, .ref mf, .ref ml, .int 0, .int 0, .int 1, .int 0, .int (-1), .int 0, .int 0, .int 0, .int 0, .int 0, .long 0])), (ms, .inr (4, [.int 0, .ref e0, .int 0]))] s.heap.size = A at hD hAm ⊢
  have hA : ∀ q : Nat, s.heap.size ≤ q → A q := fun q h => by rw [← hAe]; exact Or.inr h
  have hS : va_S A s.heap s.heap [] := va_S.rf
  have hP : va_P (dC, dI) vwCl [(g0, .inr (16, [.ref mj, .ref mq, .ref mm, .ref ms, .ref mf, .ref ml, .int 0, .int 0, .int 1, .int 0, .int (-1), .int 0, .int 0, .int 0, .int 0, .int 0, .long 0])), (ms, .inr (4, [.int 0, .ref e0, .int 0]))] s.heap := hP
  have hl := lv_entry ([.ref g0, .int p0, .int p1]) (n := 3) (Nat.le_of_ble_eq_true rfl)
  rw [lg_entry_eq]
  generalize (lg_sl ([.ref g0, .int p0, .int p1]) ++ List.replicate (3 - (lg_sl ([.ref g0, .int p0, .int p1])).length) Slot.unset).toArray = ls at hl ⊢
  have hl : lv_has ls 3 [(0, .ref g0), (1, .int p0), (2, .int p1)] := hl
  refine lv_aload_n hx hb dX11_fits_0 rfl (lv_at hl 0 rfl) ?_
  refine lv_aload_n hx hb dX11_fits_1 rfl (lv_at hl 0 rfl) ?_
  refine lv_iload_n hx hb dX11_fits_2 rfl (lv_at hl 1 rfl) ?_
  have hPc := hP.sub (ws' := [(g0, .inr (16, [.ref mj, .ref mq, .ref mm, .ref ms, .ref mf, .ref ml, .int 0, .int 0, .int 1, .int 0, .int (-1), .int 0, .int 0, .int 0, .int 0, .int 0, .long 0])), (ms, .inr (4, [.int 0, .ref e0, .int 0]))]) [0, 1] rfl
  have hDc := hD.sub (ws' := [(g0, .inr (16, [.ref mj, .ref mq, .ref mm, .ref ms, .ref mf, .ref ml, .int 0, .int 0, .int 1, .int 0, .int (-1), .int 0, .int 0, .int 0, .int 0, .int 0, .long 0])), (ms, .inr (4, [.int 0, .ref e0, .int 0]))]) [0, 1] (by decide) rfl
  have hKc := hK.sub (tys' := []) [] rfl
  have hFc : ∀ q : Nat, s.heap.size ≤ q → A q := fun q h => hA q (Nat.le_trans hS.1 h)
  refine va_calli (va_runV (As := [.int p0]) (rest := [.ref g0]) ⟨hx, hb, hml, hown, hts⟩ (c_X11_isStone l dC dI e0 g0 p0 mj mq mm ms mf ml 0 s.heap.size) (cwV 1 hts (goodIn_sub (fun _ h9 => List.mem_cons_of_mem _ (List.mem_append_right _ (List.mem_append_left _ h9))) (by decide +kernel)) rfl rfl rfl (by decide +kernel) ⟨(Nat.le_of_ble_eq_true rfl), (Nat.le_of_ble_eq_true rfl)⟩) ⟨fz_blind, va_recv hKc hPc (ci := 16) (q0 := 0) rfl rfl, fz_pre hPc hKc hDc hAm hS hFc⟩ rfl rfl hl.1 rfl (lv_room (Nat.le_of_ble_eq_true rfl)) dX11_fits_3 ⟨(Nat.le_of_ble_eq_true rfl), (Nat.le_of_ble_eq_true rfl)⟩) hS (fun q _ h => hFc q h) hFc (fun r u t H1 locs ht hvm hw hB hz1 hk1 hS => ?_)
  obtain rfl := hw
  have hP := fz_keep hP hk1
  generalize H1 = H at hP hS ⊢
  have hP : va_P (dC, dI) vwCl [(g0, .inr (16, [.ref mj, .ref mq, .ref mm, .ref ms, .ref mf, .ref ml, .int 0, .int 0, .int 1, .int 0, .int (-1), .int 0, .int 0, .int 0, .int 0, .int 0, .long 0])), (ms, .inr (4, [.int 0, .ref e0, .int 0]))] H := hP
  have hD : va_D A [(g0, .inr (16, [.ref mj, .ref mq, .ref mm, .ref ms, .ref mf, .ref ml, .int 0, .int 0, .int 1, .int 0, .int (-1), .int 0, .int 0, .int 0, .int 0, .int 0, .long 0])), (ms, .inr (4, [.int 0, .ref e0, .int 0]))] := hD
  refine W.widen (k := 0) (n := 0) (Nat.le_of_ble_eq_true rfl) (Nat.le_of_ble_eq_true rfl) ?_
  refine lv_if_eq (tgt := 21) hx hb dX11_fits_6 (by decide) (fun _ => ?_) (fun c_9 => absurd (by decide) c_9)
  refine lv_iconst (v := 0) hx hb dX11_fits_21 (by decide) ?_
  refine lv_iconst (v := 1) hx hb dX11_fits_22 (by decide) ?_
  have hPc := hP.sub (ws' := [(g0, .inr (16, [.ref mj, .ref mq, .ref mm, .ref ms, .ref mf, .ref ml, .int 0, .int 0, .int 1, .int 0, .int (-1), .int 0, .int 0, .int 0, .int 0, .int 0, .long 0]))]) [0] rfl
  have hDc := hD.sub (ws' := [(g0, .inr (16, [.ref mj, .ref mq, .ref mm, .ref ms, .ref mf, .ref ml, .int 0, .int 0, .int 1, .int 0, .int (-1), .int 0, .int 0, .int 0, .int 0, .int 0, .long 0]))]) [0] (by decide) rfl
  have hKc := hK.sub (tys' := []) [] rfl
  have hFc := va_free (wc := [(g0, .inr (16, [.ref mj, .ref mq, .ref mm, .ref ms, .ref mf, .ref ml, .int 0, .int 0, .int 1, .int 0, .int (-1), .int 0, .int 0, .int 0, .int 0, .int 0, .long 0]))]) hD hS hA [0] rfl
  refine va_calli (va_runV (As := [.int 0, .int 1]) (rest := []) ⟨hx, hb, hml, hown, hts⟩ (c_X11_no0 l dC dI e0 g0 1 mj mq mm ms mf ml 0 H.size) (cwV 2 hts (goodIn_sub (fun _ h9 => List.mem_cons_of_mem _ (List.mem_append_right _ (List.mem_append_right _ h9))) (by decide +kernel)) rfl rfl rfl (by decide +kernel) ⟨(Nat.le_of_ble_eq_true rfl), (Nat.le_of_ble_eq_true rfl)⟩) ⟨fz_blind, va_recv hKc hPc (ci := 16) (q0 := 0) rfl rfl, fz_pre hPc hKc hDc hAm hS hFc⟩ rfl rfl hl.1 rfl (lv_room (Nat.le_of_ble_eq_true rfl)) dX11_fits_23 ⟨(Nat.le_of_ble_eq_true rfl), (Nat.le_of_ble_eq_true rfl)⟩) hS (fun q _ h => hFc q h) hFc (fun r u t H1 locs ht hvm hw hB hz1 hk1 hS => ?_)
  obtain rfl := hw
  obtain ⟨hP1, hK1, hD1⟩ := hB
  rw [ht] at hP1
  have hK1 := va_K.moved hvm.symm hK1
  obtain ⟨hP, hD⟩ := va_join (wr := [(ms, .inr (4, [.int 0, .ref e0, .int 0]))]) (w1 := [(g0, .inr (16, [.ref mj, .ref mq, .ref mm, .ref ms, .ref mf, .ref ml, .int 1, .int 0, .int 1, .int 0, .int (-1), .int 0, .int 0, .int 0, .int 0, .int 0, .long 0]))]) hP hD [0] [1] rfl rfl (by decide) (by decide) hk1 hFc hP1 hD1
  generalize H1 = H at hP hS ⊢
  have hP : va_P (dC, dI) vwCl [(ms, .inr (4, [.int 0, .ref e0, .int 0])), (g0, .inr (16, [.ref mj, .ref mq, .ref mm, .ref ms, .ref mf, .ref ml, .int 1, .int 0, .int 1, .int 0, .int (-1), .int 0, .int 0, .int 0, .int 0, .int 0, .long 0]))] H := hP
  have hD : va_D A [(ms, .inr (4, [.int 0, .ref e0, .int 0])), (g0, .inr (16, [.ref mj, .ref mq, .ref mm, .ref ms, .ref mf, .ref ml, .int 1, .int 0, .int 1, .int 0, .int (-1), .int 0, .int 0, .int 0, .int 0, .int 0, .long 0]))] := hD
  have hK : va_K (dC, dI) vwCl [] s := hK
  refine W.widen (k := 0) (n := 0) (Nat.le_of_ble_eq_true rfl) (Nat.le_of_ble_eq_true rfl) ?_
  refine lv_if_ne (tgt := 42) hx hb dX11_fits_26 (by decide) (fun _ => ?_) (fun c_9 => absurd c_9 (by decide))
  refine lv_iconst (v := 0) hx hb dX11_fits_42 (by decide) ?_
  have hP9 := hP.sub (ws' := [(g0, .inr (16, [.ref mj, .ref mq, .ref mm, .ref ms, .ref mf, .ref ml, .int 1, .int 0, .int 1, .int 0, .int (-1), .int 0, .int 0, .int 0, .int 0, .int 0, .long 0]))]) [1] rfl
  have hD9 := hD.sub (ws' := [(g0, .inr (16, [.ref mj, .ref mq, .ref mm, .ref ms, .ref mf, .ref ml, .int 1, .int 0, .int 1, .int 0, .int (-1), .int 0, .int 0, .int 0, .int 0, .int 0, .long 0]))]) [1] (by decide) rfl
  have hK9 := hK.sub (tys' := []) [] rfl
  refine W.widen (k := 0) (n := 0) (Nat.le_of_ble_eq_true rfl) (Nat.le_of_ble_eq_true rfl) ?_
  exact W.zret (v := 0) hx hb hr rfl (fun t ht hW => ⟨⟨0, (), rfl, rfl, ⟨by rw [ht]; exact hP9, va_K.moved hW.alike hK9, hD9⟩⟩, hS.F ht⟩) hS.2.2 dX11_fits_43
def v_c_X11_set : List Cond := .code yX11_set cX11_set 6 (some .int) :: ([] ++ (wsV RX11 287 RX11 yX11_isStone v_c_X11_isStone ++ (wsV RX11 65 RX11 yX11_no v_c_X11_no0)))
set_option maxRecDepth 20000 in
theorem i_c_X11_set : ∀ w ∈ v_c_X11_set, w ∈ lw_tbl := List.forall_mem_cons.mpr ⟨List.mem_of_getElem? (i := 1839) (by decide +kernel), List.forall_mem_append.mpr ⟨fun _ h => absurd h List.not_mem_nil, List.forall_mem_append.mpr ⟨(by unfold wsV; exact List.forall_mem_append.mpr ⟨List.forall_mem_cons.mpr ⟨List.mem_of_getElem? (i := 1801) (by decide +kernel), List.forall_mem_cons.mpr ⟨List.mem_of_getElem? (i := 1803) (by decide +kernel), List.forall_mem_cons.mpr ⟨List.mem_of_getElem? (i := 44) (by decide +kernel), List.forall_mem_cons.mpr ⟨List.mem_of_getElem? (i := 54) (by decide +kernel), fun _ h => absurd h List.not_mem_nil⟩⟩⟩⟩, i_c_X11_isStone⟩), (by unfold wsV; exact List.forall_mem_append.mpr ⟨List.forall_mem_cons.mpr ⟨List.mem_of_getElem? (i := 1434) (by decide +kernel), List.forall_mem_cons.mpr ⟨List.mem_of_getElem? (i := 1436) (by decide +kernel), List.forall_mem_cons.mpr ⟨List.mem_of_getElem? (i := 25) (by decide +kernel), List.forall_mem_cons.mpr ⟨List.mem_of_getElem? (i := 54) (by decide +kernel), fun _ h => absurd h List.not_mem_nil⟩⟩⟩⟩, i_c_X11_no0⟩)⟩⟩⟩
set_option maxHeartbeats 4000000 in
set_option maxRecDepth 100000 in
theorem c_X11_set (l : Launch) (dC : Nat → ClassId) (dI : Nat → Nat → Nat) (e0 : Nat) (g0 : Nat) (p0 p1 : Int32) (mj mq mm ms mf ml : Nat) (sz : Nat) : Met l yX11_set v_c_X11_set ({ frames := 2, cells := 0, slots := 0, locals := 46 }) (fz_P (dC, dI) e0 [(g0, .inr (16, [.ref mj, .ref mq, .ref mm, .ref ms, .ref mf, .ref ml, .int 0, .int 0, .int 1, .int 0, .int (-1), .int 0, .int 0, .int 0, .int 0, .int 0, .long 0])), (ms, .inr (4, [.int 0, .ref e0, .int 0]))] [] sz (va_A [(g0, .inr (16, [.ref mj, .ref mq, .ref mm, .ref ms, .ref mf, .ref ml, .int 0, .int 0, .int 1, .int 0, .int (-1), .int 0, .int 0, .int 0, .int 0, .int 0, .long 0])), (ms, .inr (4, [.int 0, .ref e0, .int 0]))] sz) [.ref g0, .int p0, .int p1]) (va_Qi (fun (r : Int32) (u : Unit) => r = 0) (fun (u : Unit) (t : State) => va_P (dC, dI) vwCl [(g0, .inr (16, [.ref mj, .ref mq, .ref mm, .ref ms, .ref mf, .ref ml, .int 1, .int 0, .int 1, .int 0, .int (-1), .int 0, .int 0, .int 0, .int 0, .int 0, .long 0]))] t.heap ∧ va_K (dC, dI) vwCl [] t ∧ va_D (va_A [(g0, .inr (16, [.ref mj, .ref mq, .ref mm, .ref ms, .ref mf, .ref ml, .int 0, .int 0, .int 1, .int 0, .int (-1), .int 0, .int 0, .int 0, .int 0, .int 0, .long 0])), (ms, .inr (4, [.int 0, .ref e0, .int 0]))] sz) [(g0, .inr (16, [.ref mj, .ref mq, .ref mm, .ref ms, .ref mf, .ref ml, .int 1, .int 0, .int 1, .int 0, .int (-1), .int 0, .int 0, .int 0, .int 0, .int 0, .long 0]))]) (va_A [(g0, .inr (16, [.ref mj, .ref mq, .ref mm, .ref ms, .ref mf, .ref ml, .int 0, .int 0, .int 1, .int 0, .int (-1), .int 0, .int 0, .int 0, .int 0, .int 0, .long 0])), (ms, .inr (4, [.int 0, .ref e0, .int 0]))] sz)) 0 0 (va_A [(g0, .inr (16, [.ref mj, .ref mq, .ref mm, .ref ms, .ref mf, .ref ml, .int 0, .int 0, .int 1, .int 0, .int (-1), .int 0, .int 0, .int 0, .int 0, .int 0, .long 0])), (ms, .inr (4, [.int 0, .ref e0, .int 0]))] sz) := by
  refine Met.ofW (cc := cX11_set) (maxL := 6) (ret := (some .int)) (by decide) rfl ?_
  intro p e s m args below meth c s₁ B hml hv
  obtain ⟨rfl, hsz, hP, hK, hD0, hAm⟩ := hv
  have hx := B.exec
  have hb := B.bytes
  have hr := B.returns
  have hts := atoms_spec (ws := v_c_X11_set) B.pre
  have hown : s.vm.findClass RX11 = some m.cls := findClass_of_methodNamed B.named
  have hlocks := B.notSynchronized
  subst hsz
  have hD := hD0.self (sz := s.heap.size)
  generalize hAe : va_A [(g0, .inr (16, [.ref mj, .ref mq, .ref mm, .ref ms, .ref mf, .ref ml, .int 0, .int 0, .int 1, .int 0, .int (-1), .int 0, .int 0, .int 0, .int 0, .int 0, .long 0])), (ms, .inr (4, [.int 0, .ref e0, .int 0]))] s.heap.size = A at hD hAm ⊢
  have hA : ∀ q : Nat, s.heap.size ≤ q → A q := fun q h => by rw [← hAe]; exact Or.inr h
  have hS : va_S A s.heap s.heap [] := va_S.rf
  have hP : va_P (dC, dI) vwCl [(g0, .inr (16, [.ref mj, .ref mq, .ref mm, .ref ms, .ref mf, .ref ml, .int 0, .int 0, .int 1, .int 0, .int (-1), .int 0, .int 0, .int 0, .int 0, .int 0, .long 0])), (ms, .inr (4, [.int 0, .ref e0, .int 0]))] s.heap := hP
  have hl := lv_entry ([.ref g0, .int p0, .int p1]) (n := 6) (Nat.le_of_ble_eq_true rfl)
  rw [lg_entry_eq]
  generalize (lg_sl ([.ref g0, .int p0, .int p1]) ++ List.replicate (6 - (lg_sl ([.ref g0, .int p0, .int p1])).length) Slot.unset).toArray = ls at hl ⊢
  have hl : lv_has ls 6 [(0, .ref g0), (1, .int p0), (2, .int p1)] := hl
  refine lv_aload_n hx hb dX11_set_0 rfl (lv_at hl 0 rfl) ?_
  refine lv_aload_n hx hb dX11_set_1 rfl (lv_at hl 0 rfl) ?_
  refine lv_iload_n hx hb dX11_set_2 rfl (lv_at hl 1 rfl) ?_
  have hPc := hP.sub (ws' := [(g0, .inr (16, [.ref mj, .ref mq, .ref mm, .ref ms, .ref mf, .ref ml, .int 0, .int 0, .int 1, .int 0, .int (-1), .int 0, .int 0, .int 0, .int 0, .int 0, .long 0])), (ms, .inr (4, [.int 0, .ref e0, .int 0]))]) [0, 1] rfl
  have hDc := hD.sub (ws' := [(g0, .inr (16, [.ref mj, .ref mq, .ref mm, .ref ms, .ref mf, .ref ml, .int 0, .int 0, .int 1, .int 0, .int (-1), .int 0, .int 0, .int 0, .int 0, .int 0, .long 0])), (ms, .inr (4, [.int 0, .ref e0, .int 0]))]) [0, 1] (by decide) rfl
  have hKc := hK.sub (tys' := []) [] rfl
  have hFc : ∀ q : Nat, s.heap.size ≤ q → A q := fun q h => hA q (Nat.le_trans hS.1 h)
  refine va_calli (va_runV (As := [.int p0]) (rest := [.ref g0]) ⟨hx, hb, hml, hown, hts⟩ (c_X11_isStone l dC dI e0 g0 p0 mj mq mm ms mf ml 0 s.heap.size) (cwV 1 hts (goodIn_sub (fun _ h9 => List.mem_cons_of_mem _ (List.mem_append_right _ (List.mem_append_left _ h9))) (by decide +kernel)) rfl rfl rfl (by decide +kernel) ⟨(Nat.le_of_ble_eq_true rfl), (Nat.le_of_ble_eq_true rfl)⟩) ⟨fz_blind, va_recv hKc hPc (ci := 16) (q0 := 0) rfl rfl, fz_pre hPc hKc hDc hAm hS hFc⟩ rfl rfl hl.1 rfl (lv_room (Nat.le_of_ble_eq_true rfl)) dX11_set_3 ⟨(Nat.le_of_ble_eq_true rfl), (Nat.le_of_ble_eq_true rfl)⟩) hS (fun q _ h => hFc q h) hFc (fun r u t H1 locs ht hvm hw hB hz1 hk1 hS => ?_)
  obtain rfl := hw
  have hP := fz_keep hP hk1
  generalize H1 = H at hP hS ⊢
  have hP : va_P (dC, dI) vwCl [(g0, .inr (16, [.ref mj, .ref mq, .ref mm, .ref ms, .ref mf, .ref ml, .int 0, .int 0, .int 1, .int 0, .int (-1), .int 0, .int 0, .int 0, .int 0, .int 0, .long 0])), (ms, .inr (4, [.int 0, .ref e0, .int 0]))] H := hP
  have hD : va_D A [(g0, .inr (16, [.ref mj, .ref mq, .ref mm, .ref ms, .ref mf, .ref ml, .int 0, .int 0, .int 1, .int 0, .int (-1), .int 0, .int 0, .int 0, .int 0, .int 0, .long 0])), (ms, .inr (4, [.int 0, .ref e0, .int 0]))] := hD
  refine W.widen (k := 0) (n := 0) (Nat.le_of_ble_eq_true rfl) (Nat.le_of_ble_eq_true rfl) ?_
  refine lv_if_eq (tgt := 21) hx hb dX11_set_6 (by decide) (fun _ => ?_) (fun c_9 => absurd (by decide) c_9)
  refine lv_iconst (v := 0) hx hb dX11_set_21 (by decide) ?_
  refine lv_iconst (v := 1) hx hb dX11_set_22 (by decide) ?_
  have hPc := hP.sub (ws' := [(g0, .inr (16, [.ref mj, .ref mq, .ref mm, .ref ms, .ref mf, .ref ml, .int 0, .int 0, .int 1, .int 0, .int (-1), .int 0, .int 0, .int 0, .int 0, .int 0, .long 0]))]) [0] rfl
  have hDc := hD.sub (ws' := [(g0, .inr (16, [.ref mj, .ref mq, .ref mm, .ref ms, .ref mf, .ref ml, .int 0, .int 0, .int 1, .int 0, .int (-1), .int 0, .int 0, .int 0, .int 0, .int 0, .long 0]))]) [0] (by decide) rfl
  have hKc := hK.sub (tys' := []) [] rfl
  have hFc := va_free (wc := [(g0, .inr (16, [.ref mj, .ref mq, .ref mm, .ref ms, .ref mf, .ref ml, .int 0, .int 0, .int 1, .int 0, .int (-1), .int 0, .int 0, .int 0, .int 0, .int 0, .long 0]))]) hD hS hA [0] rfl
  refine va_calli (va_runV (As := [.int 0, .int 1]) (rest := []) ⟨hx, hb, hml, hown, hts⟩ (c_X11_no0 l dC dI e0 g0 1 mj mq mm ms mf ml 0 H.size) (cwV 2 hts (goodIn_sub (fun _ h9 => List.mem_cons_of_mem _ (List.mem_append_right _ (List.mem_append_right _ h9))) (by decide +kernel)) rfl rfl rfl (by decide +kernel) ⟨(Nat.le_of_ble_eq_true rfl), (Nat.le_of_ble_eq_true rfl)⟩) ⟨fz_blind, va_recv hKc hPc (ci := 16) (q0 := 0) rfl rfl, fz_pre hPc hKc hDc hAm hS hFc⟩ rfl rfl hl.1 rfl (lv_room (Nat.le_of_ble_eq_true rfl)) dX11_set_23 ⟨(Nat.le_of_ble_eq_true rfl), (Nat.le_of_ble_eq_true rfl)⟩) hS (fun q _ h => hFc q h) hFc (fun r u t H1 locs ht hvm hw hB hz1 hk1 hS => ?_)
  obtain rfl := hw
  obtain ⟨hP1, hK1, hD1⟩ := hB
  rw [ht] at hP1
  have hK1 := va_K.moved hvm.symm hK1
  obtain ⟨hP, hD⟩ := va_join (wr := [(ms, .inr (4, [.int 0, .ref e0, .int 0]))]) (w1 := [(g0, .inr (16, [.ref mj, .ref mq, .ref mm, .ref ms, .ref mf, .ref ml, .int 1, .int 0, .int 1, .int 0, .int (-1), .int 0, .int 0, .int 0, .int 0, .int 0, .long 0]))]) hP hD [0] [1] rfl rfl (by decide) (by decide) hk1 hFc hP1 hD1
  generalize H1 = H at hP hS ⊢
  have hP : va_P (dC, dI) vwCl [(ms, .inr (4, [.int 0, .ref e0, .int 0])), (g0, .inr (16, [.ref mj, .ref mq, .ref mm, .ref ms, .ref mf, .ref ml, .int 1, .int 0, .int 1, .int 0, .int (-1), .int 0, .int 0, .int 0, .int 0, .int 0, .long 0]))] H := hP
  have hD : va_D A [(ms, .inr (4, [.int 0, .ref e0, .int 0])), (g0, .inr (16, [.ref mj, .ref mq, .ref mm, .ref ms, .ref mf, .ref ml, .int 1, .int 0, .int 1, .int 0, .int (-1), .int 0, .int 0, .int 0, .int 0, .int 0, .long 0]))] := hD
  have hK : va_K (dC, dI) vwCl [] s := hK
  refine W.widen (k := 0) (n := 0) (Nat.le_of_ble_eq_true rfl) (Nat.le_of_ble_eq_true rfl) ?_
  refine lv_if_ne (tgt := 43) hx hb dX11_set_26 (by decide) (fun _ => ?_) (fun c_9 => absurd c_9 (by decide))
  refine lv_iconst (v := 0) hx hb dX11_set_43 (by decide) ?_
  have hP9 := hP.sub (ws' := [(g0, .inr (16, [.ref mj, .ref mq, .ref mm, .ref ms, .ref mf, .ref ml, .int 1, .int 0, .int 1, .int 0, .int (-1), .int 0, .int 0, .int 0, .int 0, .int 0, .long 0]))]) [1] rfl
  have hD9 := hD.sub (ws' := [(g0, .inr (16, [.ref mj, .ref mq, .ref mm, .ref ms, .ref mf, .ref ml, .int 1, .int 0, .int 1, .int 0, .int (-1), .int 0, .int 0, .int 0, .int 0, .int 0, .long 0]))]) [1] (by decide) rfl
  have hK9 := hK.sub (tys' := []) [] rfl
  refine W.widen (k := 0) (n := 0) (Nat.le_of_ble_eq_true rfl) (Nat.le_of_ble_eq_true rfl) ?_
  exact W.iret (v := 0) hx hb hr (fun t ht hW => ⟨⟨0, (), rfl, rfl, ⟨by rw [ht]; exact hP9, va_K.moved hW.alike hK9, hD9⟩⟩, hS.F ht⟩) hS.2.2 dX11_set_44
def v_c_X11_setCentre : List Cond := .code yX11_setCentre cX11_setCentre 4 (some .int) :: ([.constantLong RX11 323 99999, .fieldLink RX11 36 "VoussoirYardModel" "strength" "I", .fieldLink RX11 325 "VoussoirYardModel" "stands" "Z"] ++ (wsS RX11 57 yX11_isIn v_c_X11_isIn ++ (wsV RX11 65 RX11 yX11_no v_c_X11_no1 ++ (wsX110 ++ (wsV RX11 54 RX11 yX11_many v_c_X11_many ++ (wsV RX11 65 RX11 yX11_no v_c_X11_no0))))))
set_option maxRecDepth 20000 in
theorem i_c_X11_setCentre : ∀ w ∈ v_c_X11_setCentre, w ∈ lw_tbl := List.forall_mem_cons.mpr ⟨List.mem_of_getElem? (i := 1834) (by decide +kernel), List.forall_mem_append.mpr ⟨List.forall_mem_cons.mpr ⟨List.mem_of_getElem? (i := 1835) (by decide +kernel), List.forall_mem_cons.mpr ⟨List.mem_of_getElem? (i := 1334) (by decide +kernel), List.forall_mem_cons.mpr ⟨List.mem_of_getElem? (i := 1339) (by decide +kernel), fun _ h => absurd h List.not_mem_nil⟩⟩⟩, List.forall_mem_append.mpr ⟨(by unfold wsS; exact List.forall_mem_append.mpr ⟨List.forall_mem_cons.mpr ⟨List.mem_of_getElem? (i := 1388) (by decide +kernel), List.forall_mem_cons.mpr ⟨List.mem_of_getElem? (i := 1389) (by decide +kernel), List.forall_mem_cons.mpr ⟨List.mem_of_getElem? (i := 54) (by decide +kernel), fun _ h => absurd h List.not_mem_nil⟩⟩⟩, i_c_X11_isIn⟩), List.forall_mem_append.mpr ⟨(by unfold wsV; exact List.forall_mem_append.mpr ⟨List.forall_mem_cons.mpr ⟨List.mem_of_getElem? (i := 1434) (by decide +kernel), List.forall_mem_cons.mpr ⟨List.mem_of_getElem? (i := 1436) (by decide +kernel), List.forall_mem_cons.mpr ⟨List.mem_of_getElem? (i := 25) (by decide +kernel), List.forall_mem_cons.mpr ⟨List.mem_of_getElem? (i := 54) (by decide +kernel), fun _ h => absurd h List.not_mem_nil⟩⟩⟩⟩, i_c_X11_no1⟩), List.forall_mem_append.mpr ⟨inX11, List.forall_mem_append.mpr ⟨(by unfold wsV; exact List.forall_mem_append.mpr ⟨List.forall_mem_cons.mpr ⟨List.mem_of_getElem? (i := 1524) (by decide +kernel), List.forall_mem_cons.mpr ⟨List.mem_of_getElem? (i := 1526) (by decide +kernel), List.forall_mem_cons.mpr ⟨List.mem_of_getElem? (i := 30) (by decide +kernel), List.forall_mem_cons.mpr ⟨List.mem_of_getElem? (i := 54) (by decide +kernel), fun _ h => absurd h List.not_mem_nil⟩⟩⟩⟩, i_c_X11_many⟩), (by unfold wsV; exact List.forall_mem_append.mpr ⟨List.forall_mem_cons.mpr ⟨List.mem_of_getElem? (i := 1434) (by decide +kernel), List.forall_mem_cons.mpr ⟨List.mem_of_getElem? (i := 1436) (by decide +kernel), List.forall_mem_cons.mpr ⟨List.mem_of_getElem? (i := 25) (by decide +kernel), List.forall_mem_cons.mpr ⟨List.mem_of_getElem? (i := 54) (by decide +kernel), fun _ h => absurd h List.not_mem_nil⟩⟩⟩⟩, i_c_X11_no0⟩)⟩⟩⟩⟩⟩⟩
set_option maxHeartbeats 4000000 in
set_option maxRecDepth 100000 in
theorem c_X11_setCentre (l : Launch) (dC : Nat → ClassId) (dI : Nat → Nat → Nat) (e0 : Nat) (g0 : Nat) (p0 : Int32) (mj mq mm ms mf ml : Nat) (sz : Nat) : Met l yX11_setCentre v_c_X11_setCentre ({ frames := 2, cells := 0, slots := 0, locals := 50 }) (fz_P (dC, dI) e0 [(g0, .inr (16, [.ref mj, .ref mq, .ref mm, .ref ms, .ref mf, .ref ml, .int 0, .int 0, .int 1, .int 0, .int (-1), .int 0, .int 0, .int 0, .int 0, .int 0, .long 0])), (mj, .inr (4, [.int 0, .ref e0, .int 0]))] [] sz (va_A [(g0, .inr (16, [.ref mj, .ref mq, .ref mm, .ref ms, .ref mf, .ref ml, .int 0, .int 0, .int 1, .int 0, .int (-1), .int 0, .int 0, .int 0, .int 0, .int 0, .long 0])), (mj, .inr (4, [.int 0, .ref e0, .int 0]))] sz) [.ref g0, .int p0]) (va_Qi (fun (r : Int32) (u : Int32) => (r = 0 ∧ u = 0 ∧ fz_in p0 1 99999) ∨ (r = 0 ∧ u = 1 ∧ ¬ fz_in p0 1 99999)) (fun (u : Int32) (t : State) => ∃ vv : Int32, va_P (dC, dI) vwCl [(g0, .inr (16, [.ref mj, .ref mq, .ref mm, .ref ms, .ref mf, .ref ml, .int u, .int 0, .int 1, .int 0, .int vv, .int 0, .int 0, .int 0, .int 0, .int 0, .long 0]))] t.heap ∧ va_K (dC, dI) vwCl [] t ∧ va_D (va_A [(g0, .inr (16, [.ref mj, .ref mq, .ref mm, .ref ms, .ref mf, .ref ml, .int 0, .int 0, .int 1, .int 0, .int (-1), .int 0, .int 0, .int 0, .int 0, .int 0, .long 0])), (mj, .inr (4, [.int 0, .ref e0, .int 0]))] sz) [(g0, .inr (16, [.ref mj, .ref mq, .ref mm, .ref ms, .ref mf, .ref ml, .int u, .int 0, .int 1, .int 0, .int vv, .int 0, .int 0, .int 0, .int 0, .int 0, .long 0]))]) (va_A [(g0, .inr (16, [.ref mj, .ref mq, .ref mm, .ref ms, .ref mf, .ref ml, .int 0, .int 0, .int 1, .int 0, .int (-1), .int 0, .int 0, .int 0, .int 0, .int 0, .long 0])), (mj, .inr (4, [.int 0, .ref e0, .int 0]))] sz)) 0 0 (va_A [(g0, .inr (16, [.ref mj, .ref mq, .ref mm, .ref ms, .ref mf, .ref ml, .int 0, .int 0, .int 1, .int 0, .int (-1), .int 0, .int 0, .int 0, .int 0, .int 0, .long 0])), (mj, .inr (4, [.int 0, .ref e0, .int 0]))] sz) := by
  refine Met.ofW (cc := cX11_setCentre) (maxL := 4) (ret := (some .int)) (by decide) rfl ?_
  intro p e s m args below meth c s₁ B hml hv
  obtain ⟨rfl, hsz, hP, hK, hD0, hAm⟩ := hv
  have hx := B.exec
  have hb := B.bytes
  have hr := B.returns
  have hts := atoms_spec (ws := v_c_X11_setCentre) B.pre
  have hown : s.vm.findClass RX11 = some m.cls := findClass_of_methodNamed B.named
  have hlocks := B.notSynchronized
  subst hsz
  have hD := hD0.self (sz := s.heap.size)
  generalize hAe : va_A [(g0, .inr (16, [.ref mj, .ref mq, .ref mm, .ref ms, .ref mf, .ref ml, .int 0, .int 0, .int 1, .int 0, .int (-1), .int 0, .int 0, .int 0, .int 0, .int 0, .long 0])), (mj, .inr (4, [.int 0, .ref e0, .int 0]))] s.heap.size = A at hD hAm ⊢
  have hA : ∀ q : Nat, s.heap.size ≤ q → A q := fun q h => by rw [← hAe]; exact Or.inr h
  have hS : va_S A s.heap s.heap [] := va_S.rf
  have hP : va_P (dC, dI) vwCl [(g0, .inr (16, [.ref mj, .ref mq, .ref mm, .ref ms, .ref mf, .ref ml, .int 0, .int 0, .int 1, .int 0, .int (-1), .int 0, .int 0, .int 0, .int 0, .int 0, .long 0])), (mj, .inr (4, [.int 0, .ref e0, .int 0]))] s.heap := hP
  have hl := lv_entry ([.ref g0, .int p0]) (n := 4) (Nat.le_of_ble_eq_true rfl)
  rw [lg_entry_eq]
  generalize (lg_sl ([.ref g0, .int p0]) ++ List.replicate (4 - (lg_sl ([.ref g0, .int p0])).length) Slot.unset).toArray = ls at hl ⊢
  have hl : lv_has ls 4 [(0, .ref g0), (1, .int p0)] := hl
  refine lv_aload_n hx hb dX11_setCentre_0 rfl (lv_at hl 0 rfl) ?_
  refine lv_iload_n hx hb dX11_setCentre_1 rfl (lv_at hl 1 rfl) ?_
  refine lv_i2l (v := p0.toInt64) hx hb dX11_setCentre_2 rfl ?_
  refine lv_lconst (v := (1 : Int32).toInt64) hx hb dX11_setCentre_3 (by decide) ?_
  refine lv_ldc2 (v := 99999) hx hb hown (hts _ (List.mem_cons_of_mem _ (List.mem_append_left _ (List.mem_of_getElem? (i := 0) rfl)))) dX11_setCentre_4 ?_
  refine lv_topl (fun z_9 e_9 => ?_)
  obtain rfl : (99999 : Int32).toInt64 = z_9 := (e_9.trans (by decide)).symm
  have hPc := hP.sub (ws' := []) [] rfl
  have hDc := hD.sub (ws' := []) [] (by decide) rfl
  have hKc := hK.sub (tys' := []) [] rfl
  have hFc : ∀ q : Nat, s.heap.size ≤ q → A q := fun q h => hA q (Nat.le_trans hS.1 h)
  refine va_calli (va_runS (As := [.long p0.toInt64, .long ((1 : Int32).toInt64), .long ((99999 : Int32).toInt64)]) (rest := [.ref g0]) ⟨hx, hb, hml, hown, hts⟩ (c_X11_isIn l dC dI e0 p0 1 99999 s.heap.size) (cwS 3 hts (goodIn_sub (fun _ h9 => List.mem_cons_of_mem _ (List.mem_append_right _ (List.mem_append_left _ h9))) (by decide +kernel)) rfl rfl rfl (by decide +kernel) ⟨(Nat.le_of_ble_eq_true rfl), (Nat.le_of_ble_eq_true rfl)⟩) ⟨fz_blind, fz_pre hPc hKc hDc hAm hS hFc⟩ rfl rfl hl.1 rfl (lv_room (Nat.le_of_ble_eq_true rfl)) dX11_setCentre_7 ⟨(Nat.le_of_ble_eq_true rfl), (Nat.le_of_ble_eq_true rfl)⟩) hS (fun q _ h => hFc q h) hFc (fun r u t H1 locs ht hvm hw hB hz1 hk1 hS => ?_)
  rcases hw with ⟨rfl, hp_1⟩ | ⟨rfl, hp_2⟩
  · have hP := fz_keep hP hk1
    generalize H1 = H at hP hS ⊢
    have hP : va_P (dC, dI) vwCl [(g0, .inr (16, [.ref mj, .ref mq, .ref mm, .ref ms, .ref mf, .ref ml, .int 0, .int 0, .int 1, .int 0, .int (-1), .int 0, .int 0, .int 0, .int 0, .int 0, .long 0])), (mj, .inr (4, [.int 0, .ref e0, .int 0]))] H := hP
    have hD : va_D A [(g0, .inr (16, [.ref mj, .ref mq, .ref mm, .ref ms, .ref mf, .ref ml, .int 0, .int 0, .int 1, .int 0, .int (-1), .int 0, .int 0, .int 0, .int 0, .int 0, .long 0])), (mj, .inr (4, [.int 0, .ref e0, .int 0]))] := hD
    refine W.widen (k := 0) (n := 0) (Nat.le_of_ble_eq_true rfl) (Nat.le_of_ble_eq_true rfl) ?_
    refine lv_iconst (v := 1) hx hb dX11_setCentre_10 (by decide) ?_
    have hPc := hP.sub (ws' := [(g0, .inr (16, [.ref mj, .ref mq, .ref mm, .ref ms, .ref mf, .ref ml, .int 0, .int 0, .int 1, .int 0, .int (-1), .int 0, .int 0, .int 0, .int 0, .int 0, .long 0]))]) [0] rfl
    have hDc := hD.sub (ws' := [(g0, .inr (16, [.ref mj, .ref mq, .ref mm, .ref ms, .ref mf, .ref ml, .int 0, .int 0, .int 1, .int 0, .int (-1), .int 0, .int 0, .int 0, .int 0, .int 0, .long 0]))]) [0] (by decide) rfl
    have hKc := hK.sub (tys' := []) [] rfl
    have hFc := va_free (wc := [(g0, .inr (16, [.ref mj, .ref mq, .ref mm, .ref ms, .ref mf, .ref ml, .int 0, .int 0, .int 1, .int 0, .int (-1), .int 0, .int 0, .int 0, .int 0, .int 0, .long 0]))]) hD hS hA [0] rfl
    refine va_calli (va_runV (As := [.int 1, .int 1]) (rest := []) ⟨hx, hb, hml, hown, hts⟩ (c_X11_no1 l dC dI e0 g0 1 mj mq mm ms mf ml 0 H.size) (cwV 2 hts (goodIn_sub (fun _ h9 => List.mem_cons_of_mem _ (List.mem_append_right _ (List.mem_append_right _ (List.mem_append_left _ h9)))) (by decide +kernel)) rfl rfl rfl (by decide +kernel) ⟨(Nat.le_of_ble_eq_true rfl), (Nat.le_of_ble_eq_true rfl)⟩) ⟨fz_blind, va_recv hKc hPc (ci := 16) (q0 := 0) rfl rfl, fz_pre hPc hKc hDc hAm hS hFc⟩ rfl rfl hl.1 rfl (lv_room (Nat.le_of_ble_eq_true rfl)) dX11_setCentre_11 ⟨(Nat.le_of_ble_eq_true rfl), (Nat.le_of_ble_eq_true rfl)⟩) hS (fun q _ h => hFc q h) hFc (fun r u t H1 locs ht hvm hw hB hz1 hk1 hS => ?_)
    obtain rfl := hw
    obtain ⟨hP1, hK1, hD1⟩ := hB
    rw [ht] at hP1
    have hK1 := va_K.moved hvm.symm hK1
    obtain ⟨hP, hD⟩ := va_join (wr := [(mj, .inr (4, [.int 0, .ref e0, .int 0]))]) (w1 := [(g0, .inr (16, [.ref mj, .ref mq, .ref mm, .ref ms, .ref mf, .ref ml, .int 0, .int 0, .int 1, .int 0, .int (-1), .int 0, .int 0, .int 0, .int 0, .int 0, .long 0]))]) hP hD [0] [1] rfl rfl (by decide) (by decide) hk1 hFc hP1 hD1
    generalize H1 = H at hP hS ⊢
    have hP : va_P (dC, dI) vwCl [(mj, .inr (4, [.int 0, .ref e0, .int 0])), (g0, .inr (16, [.ref mj, .ref mq, .ref mm, .ref ms, .ref mf, .ref ml, .int 0, .int 0, .int 1, .int 0, .int (-1), .int 0, .int 0, .int 0, .int 0, .int 0, .long 0]))] H := hP
    have hD : va_D A [(mj, .inr (4, [.int 0, .ref e0, .int 0])), (g0, .inr (16, [.ref mj, .ref mq, .ref mm, .ref ms, .ref mf, .ref ml, .int 0, .int 0, .int 1, .int 0, .int (-1), .int 0, .int 0, .int 0, .int 0, .int 0, .long 0]))] := hD
    have hK : va_K (dC, dI) vwCl [] s := hK
    refine W.widen (k := 0) (n := 0) (Nat.le_of_ble_eq_true rfl) (Nat.le_of_ble_eq_true rfl) ?_
    refine lv_if_ne (tgt := 45) hx hb dX11_setCentre_14 (by decide) (fun c_9 => absurd (by decide) c_9) (fun _ => ?_)
    refine lv_aload_n hx hb dX11_setCentre_17 rfl (lv_at hl 0 rfl) ?_
    refine lv_aload_n hx hb dX11_setCentre_18 rfl (lv_at hl 0 rfl) ?_
    refine va_get (D := (dC, dI)) (ci := 16) (v := .int (-1)) (C := RX11) (T := TX11) (N := 17) hx hb hts (fun _ h9 => List.mem_cons_of_mem _ (List.mem_append_right _ (List.mem_append_right _ (List.mem_append_right _ (List.mem_append_left _ h9))))) hown hK hP 1 rfl rfl 10 (by decide) (hts _ (List.mem_cons_of_mem _ (List.mem_append_left _ (List.mem_of_getElem? (i := 1) rfl)))) (fun _ h9 => h9) rfl dX11_setCentre_19 ?_
    refine lv_iconst (v := (-1)) hx hb dX11_setCentre_22 (by decide) ?_
    refine lv_icmp_ne (tgt := 37) hx hb dX11_setCentre_23 (by decide) (fun c_9 => absurd (by decide) c_9) (fun _ => ?_)
    refine lv_aload_n hx hb dX11_setCentre_26 rfl (lv_at hl 0 rfl) ?_
    refine va_get (D := (dC, dI)) (ci := 16) (v := .int 0) (C := RX11) (T := TX11) (N := 17) hx hb hts (fun _ h9 => List.mem_cons_of_mem _ (List.mem_append_right _ (List.mem_append_right _ (List.mem_append_right _ (List.mem_append_left _ h9))))) hown hK hP 1 rfl rfl 15 (by decide) (hts _ (List.mem_cons_of_mem _ (List.mem_append_left _ (List.mem_of_getElem? (i := 2) rfl)))) (fun _ h9 => h9) rfl dX11_setCentre_27 ?_
    refine lv_if_ne (tgt := 37) hx hb dX11_setCentre_30 (by decide) (fun c_9 => absurd (by decide) c_9) (fun _ => ?_)
    refine lv_iconst (v := 1) hx hb dX11_setCentre_33 (by decide) ?_
    refine lv_goto (tgt := 38) hx hb dX11_setCentre_34 (by decide) ?_
    refine lv_iconst (v := 2) hx hb dX11_setCentre_38 (by decide) ?_
    have hPc := hP.sub (ws' := [(g0, .inr (16, [.ref mj, .ref mq, .ref mm, .ref ms, .ref mf, .ref ml, .int 0, .int 0, .int 1, .int 0, .int (-1), .int 0, .int 0, .int 0, .int 0, .int 0, .long 0]))]) [1] rfl
    have hDc := hD.sub (ws' := [(g0, .inr (16, [.ref mj, .ref mq, .ref mm, .ref ms, .ref mf, .ref ml, .int 0, .int 0, .int 1, .int 0, .int (-1), .int 0, .int 0, .int 0, .int 0, .int 0, .long 0]))]) [1] (by decide) rfl
    have hKc := hK.sub (tys' := []) [] rfl
    have hFc := va_free (wc := [(g0, .inr (16, [.ref mj, .ref mq, .ref mm, .ref ms, .ref mf, .ref ml, .int 0, .int 0, .int 1, .int 0, .int (-1), .int 0, .int 0, .int 0, .int 0, .int 0, .long 0]))]) hD hS hA [1] rfl
    refine va_calli (va_runV (As := [.int 1, .int 2]) (rest := []) ⟨hx, hb, hml, hown, hts⟩ (c_X11_no1 l dC dI e0 g0 2 mj mq mm ms mf ml 0 H.size) (cwV 2 hts (goodIn_sub (fun _ h9 => List.mem_cons_of_mem _ (List.mem_append_right _ (List.mem_append_right _ (List.mem_append_left _ h9)))) (by decide +kernel)) rfl rfl rfl (by decide +kernel) ⟨(Nat.le_of_ble_eq_true rfl), (Nat.le_of_ble_eq_true rfl)⟩) ⟨fz_blind, va_recv hKc hPc (ci := 16) (q0 := 0) rfl rfl, fz_pre hPc hKc hDc hAm hS hFc⟩ rfl rfl hl.1 rfl (lv_room (Nat.le_of_ble_eq_true rfl)) dX11_setCentre_39 ⟨(Nat.le_of_ble_eq_true rfl), (Nat.le_of_ble_eq_true rfl)⟩) hS (fun q _ h => hFc q h) hFc (fun r u t H1 locs ht hvm hw hB hz1 hk1 hS => ?_)
    obtain rfl := hw
    obtain ⟨hP1, hK1, hD1⟩ := hB
    rw [ht] at hP1
    have hK1 := va_K.moved hvm.symm hK1
    obtain ⟨hP, hD⟩ := va_join (wr := [(mj, .inr (4, [.int 0, .ref e0, .int 0]))]) (w1 := [(g0, .inr (16, [.ref mj, .ref mq, .ref mm, .ref ms, .ref mf, .ref ml, .int 0, .int 0, .int 1, .int 0, .int (-1), .int 0, .int 0, .int 0, .int 0, .int 0, .long 0]))]) hP hD [1] [0] rfl rfl (by decide) (by decide) hk1 hFc hP1 hD1
    generalize H1 = H at hP hS ⊢
    have hP : va_P (dC, dI) vwCl [(mj, .inr (4, [.int 0, .ref e0, .int 0])), (g0, .inr (16, [.ref mj, .ref mq, .ref mm, .ref ms, .ref mf, .ref ml, .int 0, .int 0, .int 1, .int 0, .int (-1), .int 0, .int 0, .int 0, .int 0, .int 0, .long 0]))] H := hP
    have hD : va_D A [(mj, .inr (4, [.int 0, .ref e0, .int 0])), (g0, .inr (16, [.ref mj, .ref mq, .ref mm, .ref ms, .ref mf, .ref ml, .int 0, .int 0, .int 1, .int 0, .int (-1), .int 0, .int 0, .int 0, .int 0, .int 0, .long 0]))] := hD
    have hK : va_K (dC, dI) vwCl [] s := hK
    refine W.widen (k := 0) (n := 0) (Nat.le_of_ble_eq_true rfl) (Nat.le_of_ble_eq_true rfl) ?_
    refine lv_if_eq (tgt := 47) hx hb dX11_setCentre_42 (by decide) (fun _ => ?_) (fun c_9 => absurd (by decide) c_9)
    refine lv_aload_n hx hb dX11_setCentre_47 rfl (lv_at hl 0 rfl) ?_
    refine lv_iload_n hx hb dX11_setCentre_48 rfl (lv_at hl 1 rfl) ?_
    refine va_put (D := (dC, dI)) (ci := 16) (v := .int p0) (ty := .int) (C := RX11) (T := TX11) (N := 17) hx hb hts (fun _ h9 => List.mem_cons_of_mem _ (List.mem_append_right _ (List.mem_append_right _ (List.mem_append_right _ (List.mem_append_left _ h9))))) tyX11 tyX11_ok nmX11 hown hK hP hD hS 1 rfl rfl 10 (by decide) (hts _ (List.mem_cons_of_mem _ (List.mem_append_left _ (List.mem_of_getElem? (i := 1) rfl)))) (fun _ h9 => h9) rfl (by decide +kernel) rfl rfl (Nat.le_of_ble_eq_true rfl) dX11_setCentre_49 (fun H locs hP hD hS => ?_)
    have hP : va_P (dC, dI) vwCl [(mj, .inr (4, [.int 0, .ref e0, .int 0])), (g0, .inr (16, [.ref mj, .ref mq, .ref mm, .ref ms, .ref mf, .ref ml, .int 0, .int 0, .int 1, .int 0, .int p0, .int 0, .int 0, .int 0, .int 0, .int 0, .long 0]))] H := hP
    have hD : va_D A [(mj, .inr (4, [.int 0, .ref e0, .int 0])), (g0, .inr (16, [.ref mj, .ref mq, .ref mm, .ref ms, .ref mf, .ref ml, .int 0, .int 0, .int 1, .int 0, .int p0, .int 0, .int 0, .int 0, .int 0, .int 0, .long 0]))] := hD
    refine lv_iconst (v := 0) hx hb dX11_setCentre_52 (by decide) ?_
    refine lv_istore_n (lv' := [(2, .int 0), (0, .ref g0), (1, .int p0)]) hx hb dX11_setCentre_53 rfl hl (by decide) rfl (fun ls hl => ?_)
    refine lv_iconst (v := 0) hx hb dX11_setCentre_54 (by decide) ?_
    refine lv_istore_n (lv' := [(3, .int 0), (2, .int 0), (0, .ref g0), (1, .int p0)]) hx hb dX11_setCentre_55 rfl hl (by decide) rfl (fun ls hl => ?_)
    refine lv_iload_n hx hb dX11_setCentre_56 rfl (lv_at hl 0 rfl) ?_
    refine lv_aload_n hx hb dX11_setCentre_57 rfl (lv_at hl 2 rfl) ?_
    have hPc := hP.sub (ws' := [(g0, .inr (16, [.ref mj, .ref mq, .ref mm, .ref ms, .ref mf, .ref ml, .int 0, .int 0, .int 1, .int 0, .int p0, .int 0, .int 0, .int 0, .int 0, .int 0, .long 0])), (mj, .inr (4, [.int 0, .ref e0, .int 0]))]) [1, 0] rfl
    have hDc := hD.sub (ws' := [(g0, .inr (16, [.ref mj, .ref mq, .ref mm, .ref ms, .ref mf, .ref ml, .int 0, .int 0, .int 1, .int 0, .int p0, .int 0, .int 0, .int 0, .int 0, .int 0, .long 0])), (mj, .inr (4, [.int 0, .ref e0, .int 0]))]) [1, 0] (by decide) rfl
    have hKc := hK.sub (tys' := []) [] rfl
    have hFc : ∀ q : Nat, H.size ≤ q → A q := fun q h => hA q (Nat.le_trans hS.1 h)
    refine va_calli (va_runV (As := []) (rest := [.int 0]) ⟨hx, hb, hml, hown, hts⟩ (c_X11_many l dC dI e0 g0 mj mq mm ms mf ml 0 p0 H.size) (cwV 0 hts (goodIn_sub (fun _ h9 => List.mem_cons_of_mem _ (List.mem_append_right _ (List.mem_append_right _ (List.mem_append_right _ (List.mem_append_right _ (List.mem_append_left _ h9)))))) (by decide +kernel)) rfl rfl rfl (by decide +kernel) ⟨(Nat.le_of_ble_eq_true rfl), (Nat.le_of_ble_eq_true rfl)⟩) ⟨fz_blind, va_recv hKc hPc (ci := 16) (q0 := 0) rfl rfl, fz_pre hPc hKc hDc hAm hS hFc⟩ rfl rfl hl.1 rfl (lv_room (Nat.le_of_ble_eq_true rfl)) dX11_setCentre_58 ⟨(Nat.le_of_ble_eq_true rfl), (Nat.le_of_ble_eq_true rfl)⟩) hS (fun q _ h => hFc q h) hFc (fun r u t H1 locs ht hvm hw hB hz1 hk1 hS => ?_)
    obtain rfl := hw
    have hP := fz_keep hP hk1
    generalize H1 = H at hP hS ⊢
    have hP : va_P (dC, dI) vwCl [(mj, .inr (4, [.int 0, .ref e0, .int 0])), (g0, .inr (16, [.ref mj, .ref mq, .ref mm, .ref ms, .ref mf, .ref ml, .int 0, .int 0, .int 1, .int 0, .int p0, .int 0, .int 0, .int 0, .int 0, .int 0, .long 0]))] H := hP
    have hD : va_D A [(mj, .inr (4, [.int 0, .ref e0, .int 0])), (g0, .inr (16, [.ref mj, .ref mq, .ref mm, .ref ms, .ref mf, .ref ml, .int 0, .int 0, .int 1, .int 0, .int p0, .int 0, .int 0, .int 0, .int 0, .int 0, .long 0]))] := hD
    refine W.widen (k := 0) (n := 0) (Nat.le_of_ble_eq_true rfl) (Nat.le_of_ble_eq_true rfl) ?_
    refine lv_icmp_ge (tgt := 78) hx hb dX11_setCentre_61 (by decide) (fun _ => ?_) (fun c_9 => absurd (by decide) c_9)
    refine lv_iload_n hx hb dX11_setCentre_78 rfl (lv_at hl 1 rfl) ?_
    have hP9 := hP.sub (ws' := [(g0, .inr (16, [.ref mj, .ref mq, .ref mm, .ref ms, .ref mf, .ref ml, .int 0, .int 0, .int 1, .int 0, .int p0, .int 0, .int 0, .int 0, .int 0, .int 0, .long 0]))]) [1] rfl
    have hD9 := hD.sub (ws' := [(g0, .inr (16, [.ref mj, .ref mq, .ref mm, .ref ms, .ref mf, .ref ml, .int 0, .int 0, .int 1, .int 0, .int p0, .int 0, .int 0, .int 0, .int 0, .int 0, .long 0]))]) [1] (by decide) rfl
    have hK9 := hK.sub (tys' := []) [] rfl
    refine W.widen (k := 0) (n := 0) (Nat.le_of_ble_eq_true rfl) (Nat.le_of_ble_eq_true rfl) ?_
    exact W.iret (v := 0) hx hb hr (fun t ht hW => ⟨⟨0, 0, rfl, Or.inl (⟨rfl, rfl, hp_1⟩), ⟨p0, by rw [ht]; exact hP9, va_K.moved hW.alike hK9, hD9⟩⟩, hS.F ht⟩) hS.2.2 dX11_setCentre_79
  · have hP := fz_keep hP hk1
    generalize H1 = H at hP hS ⊢
    have hP : va_P (dC, dI) vwCl [(g0, .inr (16, [.ref mj, .ref mq, .ref mm, .ref ms, .ref mf, .ref ml, .int 0, .int 0, .int 1, .int 0, .int (-1), .int 0, .int 0, .int 0, .int 0, .int 0, .long 0])), (mj, .inr (4, [.int 0, .ref e0, .int 0]))] H := hP
    have hD : va_D A [(g0, .inr (16, [.ref mj, .ref mq, .ref mm, .ref ms, .ref mf, .ref ml, .int 0, .int 0, .int 1, .int 0, .int (-1), .int 0, .int 0, .int 0, .int 0, .int 0, .long 0])), (mj, .inr (4, [.int 0, .ref e0, .int 0]))] := hD
    refine W.widen (k := 0) (n := 0) (Nat.le_of_ble_eq_true rfl) (Nat.le_of_ble_eq_true rfl) ?_
    refine lv_iconst (v := 1) hx hb dX11_setCentre_10 (by decide) ?_
    have hPc := hP.sub (ws' := [(g0, .inr (16, [.ref mj, .ref mq, .ref mm, .ref ms, .ref mf, .ref ml, .int 0, .int 0, .int 1, .int 0, .int (-1), .int 0, .int 0, .int 0, .int 0, .int 0, .long 0]))]) [0] rfl
    have hDc := hD.sub (ws' := [(g0, .inr (16, [.ref mj, .ref mq, .ref mm, .ref ms, .ref mf, .ref ml, .int 0, .int 0, .int 1, .int 0, .int (-1), .int 0, .int 0, .int 0, .int 0, .int 0, .long 0]))]) [0] (by decide) rfl
    have hKc := hK.sub (tys' := []) [] rfl
    have hFc := va_free (wc := [(g0, .inr (16, [.ref mj, .ref mq, .ref mm, .ref ms, .ref mf, .ref ml, .int 0, .int 0, .int 1, .int 0, .int (-1), .int 0, .int 0, .int 0, .int 0, .int 0, .long 0]))]) hD hS hA [0] rfl
    refine va_calli (va_runV (As := [.int 0, .int 1]) (rest := []) ⟨hx, hb, hml, hown, hts⟩ (c_X11_no0 l dC dI e0 g0 1 mj mq mm ms mf ml 0 H.size) (cwV 2 hts (goodIn_sub (fun _ h9 => List.mem_cons_of_mem _ (List.mem_append_right _ (List.mem_append_right _ (List.mem_append_right _ (List.mem_append_right _ (List.mem_append_right _ h9)))))) (by decide +kernel)) rfl rfl rfl (by decide +kernel) ⟨(Nat.le_of_ble_eq_true rfl), (Nat.le_of_ble_eq_true rfl)⟩) ⟨fz_blind, va_recv hKc hPc (ci := 16) (q0 := 0) rfl rfl, fz_pre hPc hKc hDc hAm hS hFc⟩ rfl rfl hl.1 rfl (lv_room (Nat.le_of_ble_eq_true rfl)) dX11_setCentre_11 ⟨(Nat.le_of_ble_eq_true rfl), (Nat.le_of_ble_eq_true rfl)⟩) hS (fun q _ h => hFc q h) hFc (fun r u t H1 locs ht hvm hw hB hz1 hk1 hS => ?_)
    obtain rfl := hw
    obtain ⟨hP1, hK1, hD1⟩ := hB
    rw [ht] at hP1
    have hK1 := va_K.moved hvm.symm hK1
    obtain ⟨hP, hD⟩ := va_join (wr := [(mj, .inr (4, [.int 0, .ref e0, .int 0]))]) (w1 := [(g0, .inr (16, [.ref mj, .ref mq, .ref mm, .ref ms, .ref mf, .ref ml, .int 1, .int 0, .int 1, .int 0, .int (-1), .int 0, .int 0, .int 0, .int 0, .int 0, .long 0]))]) hP hD [0] [1] rfl rfl (by decide) (by decide) hk1 hFc hP1 hD1
    generalize H1 = H at hP hS ⊢
    have hP : va_P (dC, dI) vwCl [(mj, .inr (4, [.int 0, .ref e0, .int 0])), (g0, .inr (16, [.ref mj, .ref mq, .ref mm, .ref ms, .ref mf, .ref ml, .int 1, .int 0, .int 1, .int 0, .int (-1), .int 0, .int 0, .int 0, .int 0, .int 0, .long 0]))] H := hP
    have hD : va_D A [(mj, .inr (4, [.int 0, .ref e0, .int 0])), (g0, .inr (16, [.ref mj, .ref mq, .ref mm, .ref ms, .ref mf, .ref ml, .int 1, .int 0, .int 1, .int 0, .int (-1), .int 0, .int 0, .int 0, .int 0, .int 0, .long 0]))] := hD
    have hK : va_K (dC, dI) vwCl [] s := hK
    refine W.widen (k := 0) (n := 0) (Nat.le_of_ble_eq_true rfl) (Nat.le_of_ble_eq_true rfl) ?_
    refine lv_if_ne (tgt := 45) hx hb dX11_setCentre_14 (by decide) (fun _ => ?_) (fun c_9 => absurd c_9 (by decide))
    refine lv_iconst (v := 0) hx hb dX11_setCentre_45 (by decide) ?_
    have hP9 := hP.sub (ws' := [(g0, .inr (16, [.ref mj, .ref mq, .ref mm, .ref ms, .ref mf, .ref ml, .int 1, .int 0, .int 1, .int 0, .int (-1), .int 0, .int 0, .int 0, .int 0, .int 0, .long 0]))]) [1] rfl
    have hD9 := hD.sub (ws' := [(g0, .inr (16, [.ref mj, .ref mq, .ref mm, .ref ms, .ref mf, .ref ml, .int 1, .int 0, .int 1, .int 0, .int (-1), .int 0, .int 0, .int 0, .int 0, .int 0, .long 0]))]) [1] (by decide) rfl
    have hK9 := hK.sub (tys' := []) [] rfl
    refine W.widen (k := 0) (n := 0) (Nat.le_of_ble_eq_true rfl) (Nat.le_of_ble_eq_true rfl) ?_
    exact W.iret (v := 0) hx hb hr (fun t ht hW => ⟨⟨0, 1, rfl, Or.inr (⟨rfl, rfl, hp_2⟩), ⟨(-1), by rw [ht]; exact hP9, va_K.moved hW.alike hK9, hD9⟩⟩, hS.F ht⟩) hS.2.2 dX11_setCentre_46
def v_c_X11_strike : List Cond := .code yX11_strike cX11_strike 2 (some .long) :: ([.fieldLink RX11 36 "VoussoirYardModel" "strength" "I"] ++ (wsX110 ++ (wsV RX11 65 RX11 yX11_no v_c_X11_no0)))
set_option maxRecDepth 20000 in
theorem i_c_X11_strike : ∀ w ∈ v_c_X11_strike, w ∈ lw_tbl := List.forall_mem_cons.mpr ⟨List.mem_of_getElem? (i := 1847) (by decide +kernel), List.forall_mem_append.mpr ⟨List.forall_mem_cons.mpr ⟨List.mem_of_getElem? (i := 1334) (by decide +kernel), fun _ h => absurd h List.not_mem_nil⟩, List.forall_mem_append.mpr ⟨inX11, (by unfold wsV; exact List.forall_mem_append.mpr ⟨List.forall_mem_cons.mpr ⟨List.mem_of_getElem? (i := 1434) (by decide +kernel), List.forall_mem_cons.mpr ⟨List.mem_of_getElem? (i := 1436) (by decide +kernel), List.forall_mem_cons.mpr ⟨List.mem_of_getElem? (i := 25) (by decide +kernel), List.forall_mem_cons.mpr ⟨List.mem_of_getElem? (i := 54) (by decide +kernel), fun _ h => absurd h List.not_mem_nil⟩⟩⟩⟩, i_c_X11_no0⟩)⟩⟩⟩
set_option maxHeartbeats 4000000 in
set_option maxRecDepth 100000 in
theorem c_X11_strike (l : Launch) (dC : Nat → ClassId) (dI : Nat → Nat → Nat) (e0 : Nat) (g0 mj mq mm ms mf ml : Nat) (sz : Nat) : Met l yX11_strike v_c_X11_strike ({ frames := 1, cells := 0, slots := 0, locals := 22 }) (fz_P (dC, dI) e0 [(g0, .inr (16, [.ref mj, .ref mq, .ref mm, .ref ms, .ref mf, .ref ml, .int 0, .int 0, .int 1, .int 0, .int (-1), .int 0, .int 0, .int 0, .int 0, .int 0, .long 0]))] [] sz (va_A [(g0, .inr (16, [.ref mj, .ref mq, .ref mm, .ref ms, .ref mf, .ref ml, .int 0, .int 0, .int 1, .int 0, .int (-1), .int 0, .int 0, .int 0, .int 0, .int 0, .long 0]))] sz) [.ref g0]) (va_Ql (fun (r : Int64) (u : Unit) => r = (0 : Int32).toInt64) (fun (u : Unit) (t : State) => va_P (dC, dI) vwCl [(g0, .inr (16, [.ref mj, .ref mq, .ref mm, .ref ms, .ref mf, .ref ml, .int 1, .int 0, .int 1, .int 0, .int (-1), .int 0, .int 0, .int 0, .int 0, .int 0, .long 0]))] t.heap ∧ va_K (dC, dI) vwCl [] t ∧ va_D (va_A [(g0, .inr (16, [.ref mj, .ref mq, .ref mm, .ref ms, .ref mf, .ref ml, .int 0, .int 0, .int 1, .int 0, .int (-1), .int 0, .int 0, .int 0, .int 0, .int 0, .long 0]))] sz) [(g0, .inr (16, [.ref mj, .ref mq, .ref mm, .ref ms, .ref mf, .ref ml, .int 1, .int 0, .int 1, .int 0, .int (-1), .int 0, .int 0, .int 0, .int 0, .int 0, .long 0]))]) (va_A [(g0, .inr (16, [.ref mj, .ref mq, .ref mm, .ref ms, .ref mf, .ref ml, .int 0, .int 0, .int 1, .int 0, .int (-1), .int 0, .int 0, .int 0, .int 0, .int 0, .long 0]))] sz)) 0 0 (va_A [(g0, .inr (16, [.ref mj, .ref mq, .ref mm, .ref ms, .ref mf, .ref ml, .int 0, .int 0, .int 1, .int 0, .int (-1), .int 0, .int 0, .int 0, .int 0, .int 0, .long 0]))] sz) := by
  refine Met.ofW (cc := cX11_strike) (maxL := 2) (ret := (some .long)) (by decide) rfl ?_
  intro p e s m args below meth c s₁ B hml hv
  obtain ⟨rfl, hsz, hP, hK, hD0, hAm⟩ := hv
  have hx := B.exec
  have hb := B.bytes
  have hr := B.returns
  have hts := atoms_spec (ws := v_c_X11_strike) B.pre
  have hown : s.vm.findClass RX11 = some m.cls := findClass_of_methodNamed B.named
  have hlocks := B.notSynchronized
  subst hsz
  have hD := hD0.self (sz := s.heap.size)
  generalize hAe : va_A [(g0, .inr (16, [.ref mj, .ref mq, .ref mm, .ref ms, .ref mf, .ref ml, .int 0, .int 0, .int 1, .int 0, .int (-1), .int 0, .int 0, .int 0, .int 0, .int 0, .long 0]))] s.heap.size = A at hD hAm ⊢
  have hA : ∀ q : Nat, s.heap.size ≤ q → A q := fun q h => by rw [← hAe]; exact Or.inr h
  have hS : va_S A s.heap s.heap [] := va_S.rf
  have hP : va_P (dC, dI) vwCl [(g0, .inr (16, [.ref mj, .ref mq, .ref mm, .ref ms, .ref mf, .ref ml, .int 0, .int 0, .int 1, .int 0, .int (-1), .int 0, .int 0, .int 0, .int 0, .int 0, .long 0]))] s.heap := hP
  have hl := lv_entry ([.ref g0]) (n := 2) (Nat.le_of_ble_eq_true rfl)
  rw [lg_entry_eq]
  generalize (lg_sl ([.ref g0]) ++ List.replicate (2 - (lg_sl ([.ref g0])).length) Slot.unset).toArray = ls at hl ⊢
  have hl : lv_has ls 2 [(0, .ref g0)] := hl
  refine lv_aload_n hx hb dX11_strike_0 rfl (lv_at hl 0 rfl) ?_
  refine lv_aload_n hx hb dX11_strike_1 rfl (lv_at hl 0 rfl) ?_
  refine va_get (D := (dC, dI)) (ci := 16) (v := .int (-1)) (C := RX11) (T := TX11) (N := 17) hx hb hts (fun _ h9 => List.mem_cons_of_mem _ (List.mem_append_right _ (List.mem_append_left _ h9))) hown hK hP 0 rfl rfl 10 (by decide) (hts _ (List.mem_cons_of_mem _ (List.mem_append_left _ (List.mem_of_getElem? (i := 0) rfl)))) (fun _ h9 => h9) rfl dX11_strike_2 ?_
  refine lv_iconst (v := (-1)) hx hb dX11_strike_5 (by decide) ?_
  refine lv_icmp_eq (tgt := 32) hx hb dX11_strike_6 (by decide) (fun _ => ?_) (fun c_9 => absurd (by decide) c_9)
  refine lv_iconst (v := 0) hx hb dX11_strike_32 (by decide) ?_
  refine lv_iconst (v := 1) hx hb dX11_strike_33 (by decide) ?_
  have hPc := hP.sub (ws' := [(g0, .inr (16, [.ref mj, .ref mq, .ref mm, .ref ms, .ref mf, .ref ml, .int 0, .int 0, .int 1, .int 0, .int (-1), .int 0, .int 0, .int 0, .int 0, .int 0, .long 0]))]) [0] rfl
  have hDc := hD.sub (ws' := [(g0, .inr (16, [.ref mj, .ref mq, .ref mm, .ref ms, .ref mf, .ref ml, .int 0, .int 0, .int 1, .int 0, .int (-1), .int 0, .int 0, .int 0, .int 0, .int 0, .long 0]))]) [0] (by decide) rfl
  have hKc := hK.sub (tys' := []) [] rfl
  have hFc := va_free (wc := [(g0, .inr (16, [.ref mj, .ref mq, .ref mm, .ref ms, .ref mf, .ref ml, .int 0, .int 0, .int 1, .int 0, .int (-1), .int 0, .int 0, .int 0, .int 0, .int 0, .long 0]))]) hD hS hA [0] rfl
  refine va_calli (va_runV (As := [.int 0, .int 1]) (rest := []) ⟨hx, hb, hml, hown, hts⟩ (c_X11_no0 l dC dI e0 g0 1 mj mq mm ms mf ml 0 s.heap.size) (cwV 2 hts (goodIn_sub (fun _ h9 => List.mem_cons_of_mem _ (List.mem_append_right _ (List.mem_append_right _ h9))) (by decide +kernel)) rfl rfl rfl (by decide +kernel) ⟨(Nat.le_of_ble_eq_true rfl), (Nat.le_of_ble_eq_true rfl)⟩) ⟨fz_blind, va_recv hKc hPc (ci := 16) (q0 := 0) rfl rfl, fz_pre hPc hKc hDc hAm hS hFc⟩ rfl rfl hl.1 rfl (lv_room (Nat.le_of_ble_eq_true rfl)) dX11_strike_34 ⟨(Nat.le_of_ble_eq_true rfl), (Nat.le_of_ble_eq_true rfl)⟩) hS (fun q _ h => hFc q h) hFc (fun r u t H1 locs ht hvm hw hB hz1 hk1 hS => ?_)
  obtain rfl := hw
  obtain ⟨hP1, hK1, hD1⟩ := hB
  rw [ht] at hP1
  have hK1 := va_K.moved hvm.symm hK1
  obtain ⟨hP, hD⟩ := va_join (wr := []) (w1 := [(g0, .inr (16, [.ref mj, .ref mq, .ref mm, .ref ms, .ref mf, .ref ml, .int 1, .int 0, .int 1, .int 0, .int (-1), .int 0, .int 0, .int 0, .int 0, .int 0, .long 0]))]) hP hD [0] [] rfl rfl (by decide) (by decide) hk1 hFc hP1 hD1
  generalize H1 = H at hP hS ⊢
  have hP : va_P (dC, dI) vwCl [(g0, .inr (16, [.ref mj, .ref mq, .ref mm, .ref ms, .ref mf, .ref ml, .int 1, .int 0, .int 1, .int 0, .int (-1), .int 0, .int 0, .int 0, .int 0, .int 0, .long 0]))] H := hP
  have hD : va_D A [(g0, .inr (16, [.ref mj, .ref mq, .ref mm, .ref ms, .ref mf, .ref ml, .int 1, .int 0, .int 1, .int 0, .int (-1), .int 0, .int 0, .int 0, .int 0, .int 0, .long 0]))] := hD
  have hK : va_K (dC, dI) vwCl [] s := hK
  refine W.widen (k := 0) (n := 0) (Nat.le_of_ble_eq_true rfl) (Nat.le_of_ble_eq_true rfl) ?_
  refine lv_if_eq (tgt := 42) hx hb dX11_strike_37 (by decide) (fun c_9 => absurd c_9 (by decide)) (fun _ => ?_)
  refine lv_lconst (v := (0 : Int32).toInt64) hx hb dX11_strike_40 (by decide) ?_
  have hP9 := hP.sub (ws' := [(g0, .inr (16, [.ref mj, .ref mq, .ref mm, .ref ms, .ref mf, .ref ml, .int 1, .int 0, .int 1, .int 0, .int (-1), .int 0, .int 0, .int 0, .int 0, .int 0, .long 0]))]) [0] rfl
  have hD9 := hD.sub (ws' := [(g0, .inr (16, [.ref mj, .ref mq, .ref mm, .ref ms, .ref mf, .ref ml, .int 1, .int 0, .int 1, .int 0, .int (-1), .int 0, .int 0, .int 0, .int 0, .int 0, .long 0]))]) [0] (by decide) rfl
  have hK9 := hK.sub (tys' := []) [] rfl
  refine W.widen (k := 0) (n := 0) (Nat.le_of_ble_eq_true rfl) (Nat.le_of_ble_eq_true rfl) ?_
  exact W.lret (v := ((0 : Int32).toInt64)) hx hb hr (fun t ht hW => ⟨⟨((0 : Int32).toInt64), (), rfl, rfl, ⟨by rw [ht]; exact hP9, va_K.moved hW.alike hK9, hD9⟩⟩, hS.F ht⟩) hS.2.2 dX11_strike_41
def v_c_X11_stands : List Cond := .code yX11_stands cX11_stands 1 (some .boolean) :: ([.fieldLink RX11 325 "VoussoirYardModel" "stands" "Z"] ++ (wsX110))
set_option maxRecDepth 20000 in
theorem i_c_X11_stands : ∀ w ∈ v_c_X11_stands, w ∈ lw_tbl := List.forall_mem_cons.mpr ⟨List.mem_of_getElem? (i := 1856) (by decide +kernel), List.forall_mem_append.mpr ⟨List.forall_mem_cons.mpr ⟨List.mem_of_getElem? (i := 1339) (by decide +kernel), fun _ h => absurd h List.not_mem_nil⟩, inX11⟩⟩
set_option maxHeartbeats 4000000 in
set_option maxRecDepth 100000 in
theorem c_X11_stands (l : Launch) (dC : Nat → ClassId) (dI : Nat → Nat → Nat) (e0 : Nat) (g0 mj mq mm ms mf ml : Nat) (sz : Nat) : Met l yX11_stands v_c_X11_stands ({ frames := 0, cells := 0, slots := 0, locals := 0 }) (fz_P (dC, dI) e0 [(g0, .inr (16, [.ref mj, .ref mq, .ref mm, .ref ms, .ref mf, .ref ml, .int 0, .int 0, .int 1, .int 0, .int (-1), .int 0, .int 0, .int 0, .int 0, .int 0, .long 0]))] [] sz (fun q : Nat => sz ≤ q) [.ref g0]) (va_Qi (fun (r : Int32) (u : Unit) => r = 0) (fun (u : Unit) (t : State) => True) (fun q : Nat => sz ≤ q)) 0 0 (fun q : Nat => sz ≤ q) := by
  refine Met.ofW (cc := cX11_stands) (maxL := 1) (ret := (some .boolean)) (by decide) rfl ?_
  intro p e s m args below meth c s₁ B hml hv
  obtain ⟨rfl, hsz, hP, hK, hD0, hAm⟩ := hv
  have hx := B.exec
  have hb := B.bytes
  have hr := B.returns
  have hts := atoms_spec (ws := v_c_X11_stands) B.pre
  have hown : s.vm.findClass RX11 = some m.cls := findClass_of_methodNamed B.named
  have hlocks := B.notSynchronized
  subst hsz
  have hD := hD0
  generalize hAe : (fun q : Nat => s.heap.size ≤ q) = A at hAm ⊢
  have hA : ∀ q : Nat, s.heap.size ≤ q → A q := fun q h => by rw [← hAe]; exact h
  have hS : va_S A s.heap s.heap [] := va_S.rf
  have hP : va_P (dC, dI) vwCl [(g0, .inr (16, [.ref mj, .ref mq, .ref mm, .ref ms, .ref mf, .ref ml, .int 0, .int 0, .int 1, .int 0, .int (-1), .int 0, .int 0, .int 0, .int 0, .int 0, .long 0]))] s.heap := hP
  have hl := lv_entry ([.ref g0]) (n := 1) (Nat.le_of_ble_eq_true rfl)
  rw [lg_entry_eq]
  generalize (lg_sl ([.ref g0]) ++ List.replicate (1 - (lg_sl ([.ref g0])).length) Slot.unset).toArray = ls at hl ⊢
  have hl : lv_has ls 1 [(0, .ref g0)] := hl
  refine lv_aload_n hx hb dX11_stands_0 rfl (lv_at hl 0 rfl) ?_
  refine va_get (D := (dC, dI)) (ci := 16) (v := .int 0) (C := RX11) (T := TX11) (N := 17) hx hb hts (fun _ h9 => List.mem_cons_of_mem _ (List.mem_append_right _ (h9))) hown hK hP 0 rfl rfl 15 (by decide) (hts _ (List.mem_cons_of_mem _ (List.mem_append_left _ (List.mem_of_getElem? (i := 0) rfl)))) (fun _ h9 => h9) rfl dX11_stands_1 ?_
  refine W.widen (k := 0) (n := 0) (Nat.le_of_ble_eq_true rfl) (Nat.le_of_ble_eq_true rfl) ?_
  exact W.zret (v := 0) hx hb hr rfl (fun t ht hW => ⟨⟨0, (), rfl, rfl, trivial⟩, hS.F ht⟩) hS.2.2 dX11_stands_4
def v_c_X11_pass : List Cond := .code yX11_pass cX11_pass 2 (some .int) :: ([.constantLong RX11 194 99, .fieldLink RX11 39 "VoussoirYardModel" "thrown" "I", .fieldLink RX11 182 "VoussoirYardModel" "day" "I"] ++ (wsS RX11 57 yX11_isIn v_c_X11_isIn ++ (wsX110 ++ (wsV RX11 330 RX11 yX11_refuse v_c_X11_refuse))))
set_option maxRecDepth 20000 in
theorem i_c_X11_pass : ∀ w ∈ v_c_X11_pass, w ∈ lw_tbl := List.forall_mem_cons.mpr ⟨List.mem_of_getElem? (i := 1860) (by decide +kernel), List.forall_mem_append.mpr ⟨List.forall_mem_cons.mpr ⟨List.mem_of_getElem? (i := 1685) (by decide +kernel), List.forall_mem_cons.mpr ⟨List.mem_of_getElem? (i := 1330) (by decide +kernel), List.forall_mem_cons.mpr ⟨List.mem_of_getElem? (i := 1333) (by decide +kernel), fun _ h => absurd h List.not_mem_nil⟩⟩⟩, List.forall_mem_append.mpr ⟨(by unfold wsS; exact List.forall_mem_append.mpr ⟨List.forall_mem_cons.mpr ⟨List.mem_of_getElem? (i := 1388) (by decide +kernel), List.forall_mem_cons.mpr ⟨List.mem_of_getElem? (i := 1389) (by decide +kernel), List.forall_mem_cons.mpr ⟨List.mem_of_getElem? (i := 54) (by decide +kernel), fun _ h => absurd h List.not_mem_nil⟩⟩⟩, i_c_X11_isIn⟩), List.forall_mem_append.mpr ⟨inX11, (by unfold wsV; exact List.forall_mem_append.mpr ⟨List.forall_mem_cons.mpr ⟨List.mem_of_getElem? (i := 1861) (by decide +kernel), List.forall_mem_cons.mpr ⟨List.mem_of_getElem? (i := 1863) (by decide +kernel), List.forall_mem_cons.mpr ⟨List.mem_of_getElem? (i := 47) (by decide +kernel), List.forall_mem_cons.mpr ⟨List.mem_of_getElem? (i := 54) (by decide +kernel), fun _ h => absurd h List.not_mem_nil⟩⟩⟩⟩, i_c_X11_refuse⟩)⟩⟩⟩⟩
set_option maxHeartbeats 4000000 in
set_option maxRecDepth 100000 in
theorem c_X11_pass (l : Launch) (dC : Nat → ClassId) (dI : Nat → Nat → Nat) (e0 : Nat) (g0 : Nat) (p0 : Int32) (mj mq mm ms mf ml : Nat) (sz : Nat) : Met l yX11_pass v_c_X11_pass ({ frames := 1, cells := 0, slots := 0, locals := 25 }) (fz_P (dC, dI) e0 [(g0, .inr (16, [.ref mj, .ref mq, .ref mm, .ref ms, .ref mf, .ref ml, .int 0, .int 0, .int 1, .int 0, .int (-1), .int 0, .int 0, .int 0, .int 0, .int 0, .long 0]))] [] sz (va_A [(g0, .inr (16, [.ref mj, .ref mq, .ref mm, .ref ms, .ref mf, .ref ml, .int 0, .int 0, .int 1, .int 0, .int (-1), .int 0, .int 0, .int 0, .int 0, .int 0, .long 0]))] sz) [.ref g0, .int p0]) (va_Qi (fun (r : Int32) (u : Int32) => (r = 0 + p0 ∧ u = 0 ∧ fz_in p0 1 99) ∨ (r = 0 ∧ u = 1 ∧ ¬ fz_in p0 1 99)) (fun (u : Int32) (t : State) => ∃ vv : Int32, va_P (dC, dI) vwCl [(g0, .inr (16, [.ref mj, .ref mq, .ref mm, .ref ms, .ref mf, .ref ml, .int u, .int 0, .int 1, .int vv, .int (-1), .int 0, .int 0, .int 0, .int 0, .int 0, .long 0]))] t.heap ∧ va_K (dC, dI) vwCl [] t ∧ va_D (va_A [(g0, .inr (16, [.ref mj, .ref mq, .ref mm, .ref ms, .ref mf, .ref ml, .int 0, .int 0, .int 1, .int 0, .int (-1), .int 0, .int 0, .int 0, .int 0, .int 0, .long 0]))] sz) [(g0, .inr (16, [.ref mj, .ref mq, .ref mm, .ref ms, .ref mf, .ref ml, .int u, .int 0, .int 1, .int vv, .int (-1), .int 0, .int 0, .int 0, .int 0, .int 0, .long 0]))]) (va_A [(g0, .inr (16, [.ref mj, .ref mq, .ref mm, .ref ms, .ref mf, .ref ml, .int 0, .int 0, .int 1, .int 0, .int (-1), .int 0, .int 0, .int 0, .int 0, .int 0, .long 0]))] sz)) 0 0 (va_A [(g0, .inr (16, [.ref mj, .ref mq, .ref mm, .ref ms, .ref mf, .ref ml, .int 0, .int 0, .int 1, .int 0, .int (-1), .int 0, .int 0, .int 0, .int 0, .int 0, .long 0]))] sz) := by
  refine Met.ofW (cc := cX11_pass) (maxL := 2) (ret := (some .int)) (by decide) rfl ?_
  intro p e s m args below meth c s₁ B hml hv
  obtain ⟨rfl, hsz, hP, hK, hD0, hAm⟩ := hv
  have hx := B.exec
  have hb := B.bytes
  have hr := B.returns
  have hts := atoms_spec (ws := v_c_X11_pass) B.pre
  have hown : s.vm.findClass RX11 = some m.cls := findClass_of_methodNamed B.named
  have hlocks := B.notSynchronized
  subst hsz
  have hD := hD0.self (sz := s.heap.size)
  generalize hAe : va_A [(g0, .inr (16, [.ref mj, .ref mq, .ref mm, .ref ms, .ref mf, .ref ml, .int 0, .int 0, .int 1, .int 0, .int (-1), .int 0, .int 0, .int 0, .int 0, .int 0, .long 0]))] s.heap.size = A at hD hAm ⊢
  have hA : ∀ q : Nat, s.heap.size ≤ q → A q := fun q h => by rw [← hAe]; exact Or.inr h
  have hS : va_S A s.heap s.heap [] := va_S.rf
  have hP : va_P (dC, dI) vwCl [(g0, .inr (16, [.ref mj, .ref mq, .ref mm, .ref ms, .ref mf, .ref ml, .int 0, .int 0, .int 1, .int 0, .int (-1), .int 0, .int 0, .int 0, .int 0, .int 0, .long 0]))] s.heap := hP
  have hl := lv_entry ([.ref g0, .int p0]) (n := 2) (Nat.le_of_ble_eq_true rfl)
  rw [lg_entry_eq]
  generalize (lg_sl ([.ref g0, .int p0]) ++ List.replicate (2 - (lg_sl ([.ref g0, .int p0])).length) Slot.unset).toArray = ls at hl ⊢
  have hl : lv_has ls 2 [(0, .ref g0), (1, .int p0)] := hl
  refine lv_iload_n hx hb dX11_pass_0 rfl (lv_at hl 1 rfl) ?_
  refine lv_i2l (v := p0.toInt64) hx hb dX11_pass_1 rfl ?_
  refine lv_lconst (v := (1 : Int32).toInt64) hx hb dX11_pass_2 (by decide) ?_
  refine lv_ldc2 (v := 99) hx hb hown (hts _ (List.mem_cons_of_mem _ (List.mem_append_left _ (List.mem_of_getElem? (i := 0) rfl)))) dX11_pass_3 ?_
  refine lv_topl (fun z_9 e_9 => ?_)
  obtain rfl : (99 : Int32).toInt64 = z_9 := (e_9.trans (by decide)).symm
  have hPc := hP.sub (ws' := []) [] rfl
  have hDc := hD.sub (ws' := []) [] (by decide) rfl
  have hKc := hK.sub (tys' := []) [] rfl
  have hFc : ∀ q : Nat, s.heap.size ≤ q → A q := fun q h => hA q (Nat.le_trans hS.1 h)
  refine va_calli (va_runS (As := [.long p0.toInt64, .long ((1 : Int32).toInt64), .long ((99 : Int32).toInt64)]) (rest := []) ⟨hx, hb, hml, hown, hts⟩ (c_X11_isIn l dC dI e0 p0 1 99 s.heap.size) (cwS 3 hts (goodIn_sub (fun _ h9 => List.mem_cons_of_mem _ (List.mem_append_right _ (List.mem_append_left _ h9))) (by decide +kernel)) rfl rfl rfl (by decide +kernel) ⟨(Nat.le_of_ble_eq_true rfl), (Nat.le_of_ble_eq_true rfl)⟩) ⟨fz_blind, fz_pre hPc hKc hDc hAm hS hFc⟩ rfl rfl hl.1 rfl (lv_room (Nat.le_of_ble_eq_true rfl)) dX11_pass_6 ⟨(Nat.le_of_ble_eq_true rfl), (Nat.le_of_ble_eq_true rfl)⟩) hS (fun q _ h => hFc q h) hFc (fun r u t H1 locs ht hvm hw hB hz1 hk1 hS => ?_)
  rcases hw with ⟨rfl, hp_1⟩ | ⟨rfl, hp_2⟩
  · have hP := fz_keep hP hk1
    generalize H1 = H at hP hS ⊢
    have hP : va_P (dC, dI) vwCl [(g0, .inr (16, [.ref mj, .ref mq, .ref mm, .ref ms, .ref mf, .ref ml, .int 0, .int 0, .int 1, .int 0, .int (-1), .int 0, .int 0, .int 0, .int 0, .int 0, .long 0]))] H := hP
    have hD : va_D A [(g0, .inr (16, [.ref mj, .ref mq, .ref mm, .ref ms, .ref mf, .ref ml, .int 0, .int 0, .int 1, .int 0, .int (-1), .int 0, .int 0, .int 0, .int 0, .int 0, .long 0]))] := hD
    refine W.widen (k := 0) (n := 0) (Nat.le_of_ble_eq_true rfl) (Nat.le_of_ble_eq_true rfl) ?_
    refine lv_if_ne (tgt := 18) hx hb dX11_pass_9 (by decide) (fun _ => ?_) (fun c_9 => absurd c_9 (by decide))
    refine lv_aload_n hx hb dX11_pass_18 rfl (lv_at hl 0 rfl) ?_
    refine lv_iconst (v := 0) hx hb dX11_pass_19 (by decide) ?_
    refine va_put (D := (dC, dI)) (ci := 16) (v := .int 0) (ty := .int) (C := RX11) (T := TX11) (N := 17) hx hb hts (fun _ h9 => List.mem_cons_of_mem _ (List.mem_append_right _ (List.mem_append_right _ (List.mem_append_left _ h9)))) tyX11 tyX11_ok nmX11 hown hK hP hD hS 0 rfl rfl 6 (by decide) (hts _ (List.mem_cons_of_mem _ (List.mem_append_left _ (List.mem_of_getElem? (i := 1) rfl)))) (fun _ h9 => h9) rfl (by decide +kernel) rfl rfl (Nat.le_of_ble_eq_true rfl) dX11_pass_20 (fun H locs hP hD hS => ?_)
    have hP : va_P (dC, dI) vwCl [(g0, .inr (16, [.ref mj, .ref mq, .ref mm, .ref ms, .ref mf, .ref ml, .int 0, .int 0, .int 1, .int 0, .int (-1), .int 0, .int 0, .int 0, .int 0, .int 0, .long 0]))] H := hP
    have hD : va_D A [(g0, .inr (16, [.ref mj, .ref mq, .ref mm, .ref ms, .ref mf, .ref ml, .int 0, .int 0, .int 1, .int 0, .int (-1), .int 0, .int 0, .int 0, .int 0, .int 0, .long 0]))] := hD
    refine lv_aload_n hx hb dX11_pass_23 rfl (lv_at hl 0 rfl) ?_
    refine lv_dup hx hb dX11_pass_24 rfl ?_
    refine va_get (D := (dC, dI)) (ci := 16) (v := .int 0) (C := RX11) (T := TX11) (N := 17) hx hb hts (fun _ h9 => List.mem_cons_of_mem _ (List.mem_append_right _ (List.mem_append_right _ (List.mem_append_left _ h9)))) hown hK hP 0 rfl rfl 9 (by decide) (hts _ (List.mem_cons_of_mem _ (List.mem_append_left _ (List.mem_of_getElem? (i := 2) rfl)))) (fun _ h9 => h9) rfl dX11_pass_25 ?_
    refine lv_iload_n hx hb dX11_pass_28 rfl (lv_at hl 1 rfl) ?_
    refine lv_iadd hx hb dX11_pass_29 ?_
    refine lv_topi (fun z_3 ez_3 => ?_)
    refine va_put (D := (dC, dI)) (ci := 16) (v := .int z_3) (ty := .int) (C := RX11) (T := TX11) (N := 17) hx hb hts (fun _ h9 => List.mem_cons_of_mem _ (List.mem_append_right _ (List.mem_append_right _ (List.mem_append_left _ h9)))) tyX11 tyX11_ok nmX11 hown hK hP hD hS 0 rfl rfl 9 (by decide) (hts _ (List.mem_cons_of_mem _ (List.mem_append_left _ (List.mem_of_getElem? (i := 2) rfl)))) (fun _ h9 => h9) rfl (by decide +kernel) rfl rfl (Nat.le_of_ble_eq_true rfl) dX11_pass_30 (fun H locs hP hD hS => ?_)
    have hP : va_P (dC, dI) vwCl [(g0, .inr (16, [.ref mj, .ref mq, .ref mm, .ref ms, .ref mf, .ref ml, .int 0, .int 0, .int 1, .int z_3, .int (-1), .int 0, .int 0, .int 0, .int 0, .int 0, .long 0]))] H := hP
    have hD : va_D A [(g0, .inr (16, [.ref mj, .ref mq, .ref mm, .ref ms, .ref mf, .ref ml, .int 0, .int 0, .int 1, .int z_3, .int (-1), .int 0, .int 0, .int 0, .int 0, .int 0, .long 0]))] := hD
    refine lv_aload_n hx hb dX11_pass_33 rfl (lv_at hl 0 rfl) ?_
    refine va_get (D := (dC, dI)) (ci := 16) (v := .int z_3) (C := RX11) (T := TX11) (N := 17) hx hb hts (fun _ h9 => List.mem_cons_of_mem _ (List.mem_append_right _ (List.mem_append_right _ (List.mem_append_left _ h9)))) hown hK hP 0 rfl rfl 9 (by decide) (hts _ (List.mem_cons_of_mem _ (List.mem_append_left _ (List.mem_of_getElem? (i := 2) rfl)))) (fun _ h9 => h9) rfl dX11_pass_34 ?_
    have hP9 := hP.sub (ws' := [(g0, .inr (16, [.ref mj, .ref mq, .ref mm, .ref ms, .ref mf, .ref ml, .int 0, .int 0, .int 1, .int z_3, .int (-1), .int 0, .int 0, .int 0, .int 0, .int 0, .long 0]))]) [0] rfl
    have hD9 := hD.sub (ws' := [(g0, .inr (16, [.ref mj, .ref mq, .ref mm, .ref ms, .ref mf, .ref ml, .int 0, .int 0, .int 1, .int z_3, .int (-1), .int 0, .int 0, .int 0, .int 0, .int 0, .long 0]))]) [0] (by decide) rfl
    have hK9 := hK.sub (tys' := []) [] rfl
    refine W.widen (k := 0) (n := 0) (Nat.le_of_ble_eq_true rfl) (Nat.le_of_ble_eq_true rfl) ?_
    exact W.iret (v := z_3) hx hb hr (fun t ht hW => ⟨⟨z_3, 0, rfl, Or.inl (⟨(by assumption), rfl, hp_1⟩), ⟨z_3, by rw [ht]; exact hP9, va_K.moved hW.alike hK9, hD9⟩⟩, hS.F ht⟩) hS.2.2 dX11_pass_37
  · have hP := fz_keep hP hk1
    generalize H1 = H at hP hS ⊢
    have hP : va_P (dC, dI) vwCl [(g0, .inr (16, [.ref mj, .ref mq, .ref mm, .ref ms, .ref mf, .ref ml, .int 0, .int 0, .int 1, .int 0, .int (-1), .int 0, .int 0, .int 0, .int 0, .int 0, .long 0]))] H := hP
    have hD : va_D A [(g0, .inr (16, [.ref mj, .ref mq, .ref mm, .ref ms, .ref mf, .ref ml, .int 0, .int 0, .int 1, .int 0, .int (-1), .int 0, .int 0, .int 0, .int 0, .int 0, .long 0]))] := hD
    refine W.widen (k := 0) (n := 0) (Nat.le_of_ble_eq_true rfl) (Nat.le_of_ble_eq_true rfl) ?_
    refine lv_if_ne (tgt := 18) hx hb dX11_pass_9 (by decide) (fun c_9 => absurd (by decide) c_9) (fun _ => ?_)
    refine lv_aload_n hx hb dX11_pass_12 rfl (lv_at hl 0 rfl) ?_
    refine lv_iconst (v := 1) hx hb dX11_pass_13 (by decide) ?_
    have hPc := hP.sub (ws' := [(g0, .inr (16, [.ref mj, .ref mq, .ref mm, .ref ms, .ref mf, .ref ml, .int 0, .int 0, .int 1, .int 0, .int (-1), .int 0, .int 0, .int 0, .int 0, .int 0, .long 0]))]) [0] rfl
    have hDc := hD.sub (ws' := [(g0, .inr (16, [.ref mj, .ref mq, .ref mm, .ref ms, .ref mf, .ref ml, .int 0, .int 0, .int 1, .int 0, .int (-1), .int 0, .int 0, .int 0, .int 0, .int 0, .long 0]))]) [0] (by decide) rfl
    have hKc := hK.sub (tys' := []) [] rfl
    have hFc := va_free (wc := [(g0, .inr (16, [.ref mj, .ref mq, .ref mm, .ref ms, .ref mf, .ref ml, .int 0, .int 0, .int 1, .int 0, .int (-1), .int 0, .int 0, .int 0, .int 0, .int 0, .long 0]))]) hD hS hA [0] rfl
    refine va_calli (va_runV (As := [.int 1]) (rest := []) ⟨hx, hb, hml, hown, hts⟩ (c_X11_refuse l dC dI e0 g0 1 mj mq mm ms mf ml 0 H.size) (cwV 1 hts (goodIn_sub (fun _ h9 => List.mem_cons_of_mem _ (List.mem_append_right _ (List.mem_append_right _ (List.mem_append_right _ h9)))) (by decide +kernel)) rfl rfl rfl (by decide +kernel) ⟨(Nat.le_of_ble_eq_true rfl), (Nat.le_of_ble_eq_true rfl)⟩) ⟨fz_blind, va_recv hKc hPc (ci := 16) (q0 := 0) rfl rfl, fz_pre hPc hKc hDc hAm hS hFc⟩ rfl rfl hl.1 rfl (lv_room (Nat.le_of_ble_eq_true rfl)) dX11_pass_14 ⟨(Nat.le_of_ble_eq_true rfl), (Nat.le_of_ble_eq_true rfl)⟩) hS (fun q _ h => hFc q h) hFc (fun r u t H1 locs ht hvm hw hB hz1 hk1 hS => ?_)
    obtain rfl := hw
    obtain ⟨hP1, hK1, hD1⟩ := hB
    rw [ht] at hP1
    have hK1 := va_K.moved hvm.symm hK1
    obtain ⟨hP, hD⟩ := va_join (wr := []) (w1 := [(g0, .inr (16, [.ref mj, .ref mq, .ref mm, .ref ms, .ref mf, .ref ml, .int 1, .int 0, .int 1, .int 0, .int (-1), .int 0, .int 0, .int 0, .int 0, .int 0, .long 0]))]) hP hD [0] [] rfl rfl (by decide) (by decide) hk1 hFc hP1 hD1
    generalize H1 = H at hP hS ⊢
    have hP : va_P (dC, dI) vwCl [(g0, .inr (16, [.ref mj, .ref mq, .ref mm, .ref ms, .ref mf, .ref ml, .int 1, .int 0, .int 1, .int 0, .int (-1), .int 0, .int 0, .int 0, .int 0, .int 0, .long 0]))] H := hP
    have hD : va_D A [(g0, .inr (16, [.ref mj, .ref mq, .ref mm, .ref ms, .ref mf, .ref ml, .int 1, .int 0, .int 1, .int 0, .int (-1), .int 0, .int 0, .int 0, .int 0, .int 0, .long 0]))] := hD
    have hK : va_K (dC, dI) vwCl [] s := hK
    refine W.widen (k := 0) (n := 0) (Nat.le_of_ble_eq_true rfl) (Nat.le_of_ble_eq_true rfl) ?_
    have hP9 := hP.sub (ws' := [(g0, .inr (16, [.ref mj, .ref mq, .ref mm, .ref ms, .ref mf, .ref ml, .int 1, .int 0, .int 1, .int 0, .int (-1), .int 0, .int 0, .int 0, .int 0, .int 0, .long 0]))]) [0] rfl
    have hD9 := hD.sub (ws' := [(g0, .inr (16, [.ref mj, .ref mq, .ref mm, .ref ms, .ref mf, .ref ml, .int 1, .int 0, .int 1, .int 0, .int (-1), .int 0, .int 0, .int 0, .int 0, .int 0, .long 0]))]) [0] (by decide) rfl
    have hK9 := hK.sub (tys' := []) [] rfl
    refine W.widen (k := 0) (n := 0) (Nat.le_of_ble_eq_true rfl) (Nat.le_of_ble_eq_true rfl) ?_
    exact W.iret (v := 0) hx hb hr (fun t ht hW => ⟨⟨0, 1, rfl, Or.inr (⟨rfl, rfl, hp_2⟩), ⟨0, by rw [ht]; exact hP9, va_K.moved hW.alike hK9, hD9⟩⟩, hS.F ht⟩) hS.2.2 dX11_pass_17
def v_c_X11_spent : List Cond := .code yX11_spent cX11_spent 1 (some .long) :: ([.fieldLink RX11 268 "VoussoirYardModel" "spent" "J"] ++ (wsX110))
set_option maxRecDepth 20000 in
theorem i_c_X11_spent : ∀ w ∈ v_c_X11_spent, w ∈ lw_tbl := List.forall_mem_cons.mpr ⟨List.mem_of_getElem? (i := 1868) (by decide +kernel), List.forall_mem_append.mpr ⟨List.forall_mem_cons.mpr ⟨List.mem_of_getElem? (i := 1340) (by decide +kernel), fun _ h => absurd h List.not_mem_nil⟩, inX11⟩⟩
set_option maxHeartbeats 4000000 in
set_option maxRecDepth 100000 in
theorem c_X11_spent (l : Launch) (dC : Nat → ClassId) (dI : Nat → Nat → Nat) (e0 : Nat) (g0 mj mq mm ms mf ml : Nat) (sz : Nat) : Met l yX11_spent v_c_X11_spent ({ frames := 0, cells := 0, slots := 0, locals := 0 }) (fz_P (dC, dI) e0 [(g0, .inr (16, [.ref mj, .ref mq, .ref mm, .ref ms, .ref mf, .ref ml, .int 0, .int 0, .int 1, .int 0, .int (-1), .int 0, .int 0, .int 0, .int 0, .int 0, .long 0]))] [] sz (fun q : Nat => sz ≤ q) [.ref g0]) (va_Ql (fun (r : Int64) (u : Unit) => r = 0) (fun (u : Unit) (t : State) => True) (fun q : Nat => sz ≤ q)) 0 0 (fun q : Nat => sz ≤ q) := by
  refine Met.ofW (cc := cX11_spent) (maxL := 1) (ret := (some .long)) (by decide) rfl ?_
  intro p e s m args below meth c s₁ B hml hv
  obtain ⟨rfl, hsz, hP, hK, hD0, hAm⟩ := hv
  have hx := B.exec
  have hb := B.bytes
  have hr := B.returns
  have hts := atoms_spec (ws := v_c_X11_spent) B.pre
  have hown : s.vm.findClass RX11 = some m.cls := findClass_of_methodNamed B.named
  have hlocks := B.notSynchronized
  subst hsz
  have hD := hD0
  generalize hAe : (fun q : Nat => s.heap.size ≤ q) = A at hAm ⊢
  have hA : ∀ q : Nat, s.heap.size ≤ q → A q := fun q h => by rw [← hAe]; exact h
  have hS : va_S A s.heap s.heap [] := va_S.rf
  have hP : va_P (dC, dI) vwCl [(g0, .inr (16, [.ref mj, .ref mq, .ref mm, .ref ms, .ref mf, .ref ml, .int 0, .int 0, .int 1, .int 0, .int (-1), .int 0, .int 0, .int 0, .int 0, .int 0, .long 0]))] s.heap := hP
  have hl := lv_entry ([.ref g0]) (n := 1) (Nat.le_of_ble_eq_true rfl)
  rw [lg_entry_eq]
  generalize (lg_sl ([.ref g0]) ++ List.replicate (1 - (lg_sl ([.ref g0])).length) Slot.unset).toArray = ls at hl ⊢
  have hl : lv_has ls 1 [(0, .ref g0)] := hl
  refine lv_aload_n hx hb dX11_spent_0 rfl (lv_at hl 0 rfl) ?_
  refine va_get (D := (dC, dI)) (ci := 16) (v := .long 0) (C := RX11) (T := TX11) (N := 17) hx hb hts (fun _ h9 => List.mem_cons_of_mem _ (List.mem_append_right _ (h9))) hown hK hP 0 rfl rfl 16 (by decide) (hts _ (List.mem_cons_of_mem _ (List.mem_append_left _ (List.mem_of_getElem? (i := 0) rfl)))) (fun _ h9 => h9) rfl dX11_spent_1 ?_
  refine W.widen (k := 0) (n := 0) (Nat.le_of_ble_eq_true rfl) (Nat.le_of_ble_eq_true rfl) ?_
  exact W.lret (v := 0) hx hb hr (fun t ht hW => ⟨⟨0, (), rfl, rfl, trivial⟩, hS.F ht⟩) hS.2.2 dX11_spent_4
def v_c_X11_waste : List Cond := .code yX11_waste cX11_waste 1 (some .int) :: ([.fieldLink RX11 284 "VoussoirYardModel" "waste" "I"] ++ (wsX110))
set_option maxRecDepth 20000 in
theorem i_c_X11_waste : ∀ w ∈ v_c_X11_waste, w ∈ lw_tbl := List.forall_mem_cons.mpr ⟨List.mem_of_getElem? (i := 1872) (by decide +kernel), List.forall_mem_append.mpr ⟨List.forall_mem_cons.mpr ⟨List.mem_of_getElem? (i := 1335) (by decide +kernel), fun _ h => absurd h List.not_mem_nil⟩, inX11⟩⟩
set_option maxHeartbeats 4000000 in
set_option maxRecDepth 100000 in
theorem c_X11_waste (l : Launch) (dC : Nat → ClassId) (dI : Nat → Nat → Nat) (e0 : Nat) (g0 mj mq mm ms mf ml : Nat) (sz : Nat) : Met l yX11_waste v_c_X11_waste ({ frames := 0, cells := 0, slots := 0, locals := 0 }) (fz_P (dC, dI) e0 [(g0, .inr (16, [.ref mj, .ref mq, .ref mm, .ref ms, .ref mf, .ref ml, .int 0, .int 0, .int 1, .int 0, .int (-1), .int 0, .int 0, .int 0, .int 0, .int 0, .long 0]))] [] sz (fun q : Nat => sz ≤ q) [.ref g0]) (va_Qi (fun (r : Int32) (u : Unit) => r = 0) (fun (u : Unit) (t : State) => True) (fun q : Nat => sz ≤ q)) 0 0 (fun q : Nat => sz ≤ q) := by
  refine Met.ofW (cc := cX11_waste) (maxL := 1) (ret := (some .int)) (by decide) rfl ?_
  intro p e s m args below meth c s₁ B hml hv
  obtain ⟨rfl, hsz, hP, hK, hD0, hAm⟩ := hv
  have hx := B.exec
  have hb := B.bytes
  have hr := B.returns
  have hts := atoms_spec (ws := v_c_X11_waste) B.pre
  have hown : s.vm.findClass RX11 = some m.cls := findClass_of_methodNamed B.named
  have hlocks := B.notSynchronized
  subst hsz
  have hD := hD0
  generalize hAe : (fun q : Nat => s.heap.size ≤ q) = A at hAm ⊢
  have hA : ∀ q : Nat, s.heap.size ≤ q → A q := fun q h => by rw [← hAe]; exact h
  have hS : va_S A s.heap s.heap [] := va_S.rf
  have hP : va_P (dC, dI) vwCl [(g0, .inr (16, [.ref mj, .ref mq, .ref mm, .ref ms, .ref mf, .ref ml, .int 0, .int 0, .int 1, .int 0, .int (-1), .int 0, .int 0, .int 0, .int 0, .int 0, .long 0]))] s.heap := hP
  have hl := lv_entry ([.ref g0]) (n := 1) (Nat.le_of_ble_eq_true rfl)
  rw [lg_entry_eq]
  generalize (lg_sl ([.ref g0]) ++ List.replicate (1 - (lg_sl ([.ref g0])).length) Slot.unset).toArray = ls at hl ⊢
  have hl : lv_has ls 1 [(0, .ref g0)] := hl
  refine lv_aload_n hx hb dX11_waste_0 rfl (lv_at hl 0 rfl) ?_
  refine va_get (D := (dC, dI)) (ci := 16) (v := .int 0) (C := RX11) (T := TX11) (N := 17) hx hb hts (fun _ h9 => List.mem_cons_of_mem _ (List.mem_append_right _ (h9))) hown hK hP 0 rfl rfl 11 (by decide) (hts _ (List.mem_cons_of_mem _ (List.mem_append_left _ (List.mem_of_getElem? (i := 0) rfl)))) (fun _ h9 => h9) rfl dX11_waste_1 ?_
  refine W.widen (k := 0) (n := 0) (Nat.le_of_ble_eq_true rfl) (Nat.le_of_ble_eq_true rfl) ?_
  exact W.iret (v := 0) hx hb hr (fun t ht hW => ⟨⟨0, (), rfl, rfl, trivial⟩, hS.F ht⟩) hS.2.2 dX11_waste_4
def v_c_X11_usedShare : List Cond := .code yX11_usedShare cX11_usedShare 1 (some .float) :: ([.fieldLink RX11 281 "VoussoirYardModel" "cut" "I"] ++ (wsX110 ++ (wsV RX11 65 RX11 yX11_no v_c_X11_no0)))
set_option maxRecDepth 20000 in
theorem i_c_X11_usedShare : ∀ w ∈ v_c_X11_usedShare, w ∈ lw_tbl := List.forall_mem_cons.mpr ⟨List.mem_of_getElem? (i := 1876) (by decide +kernel), List.forall_mem_append.mpr ⟨List.forall_mem_cons.mpr ⟨List.mem_of_getElem? (i := 1337) (by decide +kernel), fun _ h => absurd h List.not_mem_nil⟩, List.forall_mem_append.mpr ⟨inX11, (by unfold wsV; exact List.forall_mem_append.mpr ⟨List.forall_mem_cons.mpr ⟨List.mem_of_getElem? (i := 1434) (by decide +kernel), List.forall_mem_cons.mpr ⟨List.mem_of_getElem? (i := 1436) (by decide +kernel), List.forall_mem_cons.mpr ⟨List.mem_of_getElem? (i := 25) (by decide +kernel), List.forall_mem_cons.mpr ⟨List.mem_of_getElem? (i := 54) (by decide +kernel), fun _ h => absurd h List.not_mem_nil⟩⟩⟩⟩, i_c_X11_no0⟩)⟩⟩⟩
set_option maxHeartbeats 4000000 in
set_option maxRecDepth 100000 in
theorem c_X11_usedShare (l : Launch) (dC : Nat → ClassId) (dI : Nat → Nat → Nat) (e0 : Nat) (g0 mj mq mm ms mf ml : Nat) (sz : Nat) : Met l yX11_usedShare v_c_X11_usedShare ({ frames := 1, cells := 0, slots := 0, locals := 22 }) (fz_P (dC, dI) e0 [(g0, .inr (16, [.ref mj, .ref mq, .ref mm, .ref ms, .ref mf, .ref ml, .int 0, .int 0, .int 1, .int 0, .int (-1), .int 0, .int 0, .int 0, .int 0, .int 0, .long 0]))] [] sz (va_A [(g0, .inr (16, [.ref mj, .ref mq, .ref mm, .ref ms, .ref mf, .ref ml, .int 0, .int 0, .int 1, .int 0, .int (-1), .int 0, .int 0, .int 0, .int 0, .int 0, .long 0]))] sz) [.ref g0]) (va_Qf (fun (r : UInt32) (u : Unit) => True) (fun (u : Unit) (t : State) => va_P (dC, dI) vwCl [(g0, .inr (16, [.ref mj, .ref mq, .ref mm, .ref ms, .ref mf, .ref ml, .int 1, .int 0, .int 1, .int 0, .int (-1), .int 0, .int 0, .int 0, .int 0, .int 0, .long 0]))] t.heap ∧ va_K (dC, dI) vwCl [] t ∧ va_D (va_A [(g0, .inr (16, [.ref mj, .ref mq, .ref mm, .ref ms, .ref mf, .ref ml, .int 0, .int 0, .int 1, .int 0, .int (-1), .int 0, .int 0, .int 0, .int 0, .int 0, .long 0]))] sz) [(g0, .inr (16, [.ref mj, .ref mq, .ref mm, .ref ms, .ref mf, .ref ml, .int 1, .int 0, .int 1, .int 0, .int (-1), .int 0, .int 0, .int 0, .int 0, .int 0, .long 0]))]) (va_A [(g0, .inr (16, [.ref mj, .ref mq, .ref mm, .ref ms, .ref mf, .ref ml, .int 0, .int 0, .int 1, .int 0, .int (-1), .int 0, .int 0, .int 0, .int 0, .int 0, .long 0]))] sz)) 0 0 (va_A [(g0, .inr (16, [.ref mj, .ref mq, .ref mm, .ref ms, .ref mf, .ref ml, .int 0, .int 0, .int 1, .int 0, .int (-1), .int 0, .int 0, .int 0, .int 0, .int 0, .long 0]))] sz) := by
  refine Met.ofW (cc := cX11_usedShare) (maxL := 1) (ret := (some .float)) (by decide) rfl ?_
  intro p e s m args below meth c s₁ B hml hv
  obtain ⟨rfl, hsz, hP, hK, hD0, hAm⟩ := hv
  have hx := B.exec
  have hb := B.bytes
  have hr := B.returns
  have hts := atoms_spec (ws := v_c_X11_usedShare) B.pre
  have hown : s.vm.findClass RX11 = some m.cls := findClass_of_methodNamed B.named
  have hlocks := B.notSynchronized
  subst hsz
  have hD := hD0.self (sz := s.heap.size)
  generalize hAe : va_A [(g0, .inr (16, [.ref mj, .ref mq, .ref mm, .ref ms, .ref mf, .ref ml, .int 0, .int 0, .int 1, .int 0, .int (-1), .int 0, .int 0, .int 0, .int 0, .int 0, .long 0]))] s.heap.size = A at hD hAm ⊢
  have hA : ∀ q : Nat, s.heap.size ≤ q → A q := fun q h => by rw [← hAe]; exact Or.inr h
  have hS : va_S A s.heap s.heap [] := va_S.rf
  have hP : va_P (dC, dI) vwCl [(g0, .inr (16, [.ref mj, .ref mq, .ref mm, .ref ms, .ref mf, .ref ml, .int 0, .int 0, .int 1, .int 0, .int (-1), .int 0, .int 0, .int 0, .int 0, .int 0, .long 0]))] s.heap := hP
  have hl := lv_entry ([.ref g0]) (n := 1) (Nat.le_of_ble_eq_true rfl)
  rw [lg_entry_eq]
  generalize (lg_sl ([.ref g0]) ++ List.replicate (1 - (lg_sl ([.ref g0])).length) Slot.unset).toArray = ls at hl ⊢
  have hl : lv_has ls 1 [(0, .ref g0)] := hl
  refine lv_aload_n hx hb dX11_usedShare_0 rfl (lv_at hl 0 rfl) ?_
  refine lv_aload_n hx hb dX11_usedShare_1 rfl (lv_at hl 0 rfl) ?_
  refine va_get (D := (dC, dI)) (ci := 16) (v := .int 0) (C := RX11) (T := TX11) (N := 17) hx hb hts (fun _ h9 => List.mem_cons_of_mem _ (List.mem_append_right _ (List.mem_append_left _ h9))) hown hK hP 0 rfl rfl 13 (by decide) (hts _ (List.mem_cons_of_mem _ (List.mem_append_left _ (List.mem_of_getElem? (i := 0) rfl)))) (fun _ h9 => h9) rfl dX11_usedShare_2 ?_
  refine lv_if_le (tgt := 12) hx hb dX11_usedShare_5 (by decide) (fun _ => ?_) (fun c_9 => absurd (by decide) c_9)
  refine lv_iconst (v := 0) hx hb dX11_usedShare_12 (by decide) ?_
  refine lv_iconst (v := 1) hx hb dX11_usedShare_13 (by decide) ?_
  have hPc := hP.sub (ws' := [(g0, .inr (16, [.ref mj, .ref mq, .ref mm, .ref ms, .ref mf, .ref ml, .int 0, .int 0, .int 1, .int 0, .int (-1), .int 0, .int 0, .int 0, .int 0, .int 0, .long 0]))]) [0] rfl
  have hDc := hD.sub (ws' := [(g0, .inr (16, [.ref mj, .ref mq, .ref mm, .ref ms, .ref mf, .ref ml, .int 0, .int 0, .int 1, .int 0, .int (-1), .int 0, .int 0, .int 0, .int 0, .int 0, .long 0]))]) [0] (by decide) rfl
  have hKc := hK.sub (tys' := []) [] rfl
  have hFc := va_free (wc := [(g0, .inr (16, [.ref mj, .ref mq, .ref mm, .ref ms, .ref mf, .ref ml, .int 0, .int 0, .int 1, .int 0, .int (-1), .int 0, .int 0, .int 0, .int 0, .int 0, .long 0]))]) hD hS hA [0] rfl
  refine va_calli (va_runV (As := [.int 0, .int 1]) (rest := []) ⟨hx, hb, hml, hown, hts⟩ (c_X11_no0 l dC dI e0 g0 1 mj mq mm ms mf ml 0 s.heap.size) (cwV 2 hts (goodIn_sub (fun _ h9 => List.mem_cons_of_mem _ (List.mem_append_right _ (List.mem_append_right _ h9))) (by decide +kernel)) rfl rfl rfl (by decide +kernel) ⟨(Nat.le_of_ble_eq_true rfl), (Nat.le_of_ble_eq_true rfl)⟩) ⟨fz_blind, va_recv hKc hPc (ci := 16) (q0 := 0) rfl rfl, fz_pre hPc hKc hDc hAm hS hFc⟩ rfl rfl hl.1 rfl (lv_room (Nat.le_of_ble_eq_true rfl)) dX11_usedShare_14 ⟨(Nat.le_of_ble_eq_true rfl), (Nat.le_of_ble_eq_true rfl)⟩) hS (fun q _ h => hFc q h) hFc (fun r u t H1 locs ht hvm hw hB hz1 hk1 hS => ?_)
  obtain rfl := hw
  obtain ⟨hP1, hK1, hD1⟩ := hB
  rw [ht] at hP1
  have hK1 := va_K.moved hvm.symm hK1
  obtain ⟨hP, hD⟩ := va_join (wr := []) (w1 := [(g0, .inr (16, [.ref mj, .ref mq, .ref mm, .ref ms, .ref mf, .ref ml, .int 1, .int 0, .int 1, .int 0, .int (-1), .int 0, .int 0, .int 0, .int 0, .int 0, .long 0]))]) hP hD [0] [] rfl rfl (by decide) (by decide) hk1 hFc hP1 hD1
  generalize H1 = H at hP hS ⊢
  have hP : va_P (dC, dI) vwCl [(g0, .inr (16, [.ref mj, .ref mq, .ref mm, .ref ms, .ref mf, .ref ml, .int 1, .int 0, .int 1, .int 0, .int (-1), .int 0, .int 0, .int 0, .int 0, .int 0, .long 0]))] H := hP
  have hD : va_D A [(g0, .inr (16, [.ref mj, .ref mq, .ref mm, .ref ms, .ref mf, .ref ml, .int 1, .int 0, .int 1, .int 0, .int (-1), .int 0, .int 0, .int 0, .int 0, .int 0, .long 0]))] := hD
  have hK : va_K (dC, dI) vwCl [] s := hK
  refine W.widen (k := 0) (n := 0) (Nat.le_of_ble_eq_true rfl) (Nat.le_of_ble_eq_true rfl) ?_
  refine lv_if_eq (tgt := 24) hx hb dX11_usedShare_17 (by decide) (fun c_9 => absurd c_9 (by decide)) (fun _ => ?_)
  refine lv_fconst0 hx hb dX11_usedShare_20 ?_
  refine lv_goto (tgt := 35) hx hb dX11_usedShare_21 (by decide) ?_
  have hP9 := hP.sub (ws' := [(g0, .inr (16, [.ref mj, .ref mq, .ref mm, .ref ms, .ref mf, .ref ml, .int 1, .int 0, .int 1, .int 0, .int (-1), .int 0, .int 0, .int 0, .int 0, .int 0, .long 0]))]) [0] rfl
  have hD9 := hD.sub (ws' := [(g0, .inr (16, [.ref mj, .ref mq, .ref mm, .ref ms, .ref mf, .ref ml, .int 1, .int 0, .int 1, .int 0, .int (-1), .int 0, .int 0, .int 0, .int 0, .int 0, .long 0]))]) [0] (by decide) rfl
  have hK9 := hK.sub (tys' := []) [] rfl
  refine W.widen (k := 0) (n := 0) (Nat.le_of_ble_eq_true rfl) (Nat.le_of_ble_eq_true rfl) ?_
  exact W.fret (v := FP.fconst0) hx hb hr (fun t ht hW => ⟨⟨FP.fconst0, (), rfl, trivial, ⟨by rw [ht]; exact hP9, va_K.moved hW.alike hK9, hD9⟩⟩, hS.F ht⟩) hS.2.2 dX11_usedShare_35
def v_c_X11_meanArea : List Cond := .code yX11_meanArea cX11_meanArea 3 (some .double) :: ([] ++ (wsV RX11 54 RX11 yX11_many v_c_X11_many ++ (wsV RX11 65 RX11 yX11_no v_c_X11_no0)))
set_option maxRecDepth 20000 in
theorem i_c_X11_meanArea : ∀ w ∈ v_c_X11_meanArea, w ∈ lw_tbl := List.forall_mem_cons.mpr ⟨List.mem_of_getElem? (i := 1880) (by decide +kernel), List.forall_mem_append.mpr ⟨fun _ h => absurd h List.not_mem_nil, List.forall_mem_append.mpr ⟨(by unfold wsV; exact List.forall_mem_append.mpr ⟨List.forall_mem_cons.mpr ⟨List.mem_of_getElem? (i := 1524) (by decide +kernel), List.forall_mem_cons.mpr ⟨List.mem_of_getElem? (i := 1526) (by decide +kernel), List.forall_mem_cons.mpr ⟨List.mem_of_getElem? (i := 30) (by decide +kernel), List.forall_mem_cons.mpr ⟨List.mem_of_getElem? (i := 54) (by decide +kernel), fun _ h => absurd h List.not_mem_nil⟩⟩⟩⟩, i_c_X11_many⟩), (by unfold wsV; exact List.forall_mem_append.mpr ⟨List.forall_mem_cons.mpr ⟨List.mem_of_getElem? (i := 1434) (by decide +kernel), List.forall_mem_cons.mpr ⟨List.mem_of_getElem? (i := 1436) (by decide +kernel), List.forall_mem_cons.mpr ⟨List.mem_of_getElem? (i := 25) (by decide +kernel), List.forall_mem_cons.mpr ⟨List.mem_of_getElem? (i := 54) (by decide +kernel), fun _ h => absurd h List.not_mem_nil⟩⟩⟩⟩, i_c_X11_no0⟩)⟩⟩⟩
set_option maxHeartbeats 4000000 in
set_option maxRecDepth 100000 in
theorem c_X11_meanArea (l : Launch) (dC : Nat → ClassId) (dI : Nat → Nat → Nat) (e0 : Nat) (g0 mj mq mm ms mf ml : Nat) (sz : Nat) : Met l yX11_meanArea v_c_X11_meanArea ({ frames := 2, cells := 0, slots := 0, locals := 50 }) (fz_P (dC, dI) e0 [(g0, .inr (16, [.ref mj, .ref mq, .ref mm, .ref ms, .ref mf, .ref ml, .int 0, .int 0, .int 1, .int 0, .int (-1), .int 0, .int 0, .int 0, .int 0, .int 0, .long 0])), (mj, .inr (4, [.int 0, .ref e0, .int 0]))] [] sz (va_A [(g0, .inr (16, [.ref mj, .ref mq, .ref mm, .ref ms, .ref mf, .ref ml, .int 0, .int 0, .int 1, .int 0, .int (-1), .int 0, .int 0, .int 0, .int 0, .int 0, .long 0])), (mj, .inr (4, [.int 0, .ref e0, .int 0]))] sz) [.ref g0]) (va_Qd (fun (r : UInt64) (u : Unit) => True) (fun (u : Unit) (t : State) => va_P (dC, dI) vwCl [(g0, .inr (16, [.ref mj, .ref mq, .ref mm, .ref ms, .ref mf, .ref ml, .int 1, .int 0, .int 1, .int 0, .int (-1), .int 0, .int 0, .int 0, .int 0, .int 0, .long 0]))] t.heap ∧ va_K (dC, dI) vwCl [] t ∧ va_D (va_A [(g0, .inr (16, [.ref mj, .ref mq, .ref mm, .ref ms, .ref mf, .ref ml, .int 0, .int 0, .int 1, .int 0, .int (-1), .int 0, .int 0, .int 0, .int 0, .int 0, .long 0])), (mj, .inr (4, [.int 0, .ref e0, .int 0]))] sz) [(g0, .inr (16, [.ref mj, .ref mq, .ref mm, .ref ms, .ref mf, .ref ml, .int 1, .int 0, .int 1, .int 0, .int (-1), .int 0, .int 0, .int 0, .int 0, .int 0, .long 0]))]) (va_A [(g0, .inr (16, [.ref mj, .ref mq, .ref mm, .ref ms, .ref mf, .ref ml, .int 0, .int 0, .int 1, .int 0, .int (-1), .int 0, .int 0, .int 0, .int 0, .int 0, .long 0])), (mj, .inr (4, [.int 0, .ref e0, .int 0]))] sz)) 0 0 (va_A [(g0, .inr (16, [.ref mj, .ref mq, .ref mm, .ref ms, .ref mf, .ref ml, .int 0, .int 0, .int 1, .int 0, .int (-1), .int 0, .int 0, .int 0, .int 0, .int 0, .long 0])), (mj, .inr (4, [.int 0, .ref e0, .int 0]))] sz) := by
  refine Met.ofW (cc := cX11_meanArea) (maxL := 3) (ret := (some .double)) (by decide) rfl ?_
  intro p e s m args below meth c s₁ B hml hv
  obtain ⟨rfl, hsz, hP, hK, hD0, hAm⟩ := hv
  have hx := B.exec
  have hb := B.bytes
  have hr := B.returns
  have hts := atoms_spec (ws := v_c_X11_meanArea) B.pre
  have hown : s.vm.findClass RX11 = some m.cls := findClass_of_methodNamed B.named
  have hlocks := B.notSynchronized
  subst hsz
  have hD := hD0.self (sz := s.heap.size)
  generalize hAe : va_A [(g0, .inr (16, [.ref mj, .ref mq, .ref mm, .ref ms, .ref mf, .ref ml, .int 0, .int 0, .int 1, .int 0, .int (-1), .int 0, .int 0, .int 0, .int 0, .int 0, .long 0])), (mj, .inr (4, [.int 0, .ref e0, .int 0]))] s.heap.size = A at hD hAm ⊢
  have hA : ∀ q : Nat, s.heap.size ≤ q → A q := fun q h => by rw [← hAe]; exact Or.inr h
  have hS : va_S A s.heap s.heap [] := va_S.rf
  have hP : va_P (dC, dI) vwCl [(g0, .inr (16, [.ref mj, .ref mq, .ref mm, .ref ms, .ref mf, .ref ml, .int 0, .int 0, .int 1, .int 0, .int (-1), .int 0, .int 0, .int 0, .int 0, .int 0, .long 0])), (mj, .inr (4, [.int 0, .ref e0, .int 0]))] s.heap := hP
  have hl := lv_entry ([.ref g0]) (n := 3) (Nat.le_of_ble_eq_true rfl)
  rw [lg_entry_eq]
  generalize (lg_sl ([.ref g0]) ++ List.replicate (3 - (lg_sl ([.ref g0])).length) Slot.unset).toArray = ls at hl ⊢
  have hl : lv_has ls 3 [(0, .ref g0)] := hl
  refine lv_aload_n hx hb dX11_meanArea_0 rfl (lv_at hl 0 rfl) ?_
  refine lv_aload_n hx hb dX11_meanArea_1 rfl (lv_at hl 0 rfl) ?_
  have hPc := hP.sub (ws' := [(g0, .inr (16, [.ref mj, .ref mq, .ref mm, .ref ms, .ref mf, .ref ml, .int 0, .int 0, .int 1, .int 0, .int (-1), .int 0, .int 0, .int 0, .int 0, .int 0, .long 0])), (mj, .inr (4, [.int 0, .ref e0, .int 0]))]) [0, 1] rfl
  have hDc := hD.sub (ws' := [(g0, .inr (16, [.ref mj, .ref mq, .ref mm, .ref ms, .ref mf, .ref ml, .int 0, .int 0, .int 1, .int 0, .int (-1), .int 0, .int 0, .int 0, .int 0, .int 0, .long 0])), (mj, .inr (4, [.int 0, .ref e0, .int 0]))]) [0, 1] (by decide) rfl
  have hKc := hK.sub (tys' := []) [] rfl
  have hFc : ∀ q : Nat, s.heap.size ≤ q → A q := fun q h => hA q (Nat.le_trans hS.1 h)
  refine va_calli (va_runV (As := []) (rest := [.ref g0]) ⟨hx, hb, hml, hown, hts⟩ (c_X11_many l dC dI e0 g0 mj mq mm ms mf ml 0 (-1) s.heap.size) (cwV 0 hts (goodIn_sub (fun _ h9 => List.mem_cons_of_mem _ (List.mem_append_right _ (List.mem_append_left _ h9))) (by decide +kernel)) rfl rfl rfl (by decide +kernel) ⟨(Nat.le_of_ble_eq_true rfl), (Nat.le_of_ble_eq_true rfl)⟩) ⟨fz_blind, va_recv hKc hPc (ci := 16) (q0 := 0) rfl rfl, fz_pre hPc hKc hDc hAm hS hFc⟩ rfl rfl hl.1 rfl (lv_room (Nat.le_of_ble_eq_true rfl)) dX11_meanArea_2 ⟨(Nat.le_of_ble_eq_true rfl), (Nat.le_of_ble_eq_true rfl)⟩) hS (fun q _ h => hFc q h) hFc (fun r u t H1 locs ht hvm hw hB hz1 hk1 hS => ?_)
  obtain rfl := hw
  have hP := fz_keep hP hk1
  generalize H1 = H at hP hS ⊢
  have hP : va_P (dC, dI) vwCl [(g0, .inr (16, [.ref mj, .ref mq, .ref mm, .ref ms, .ref mf, .ref ml, .int 0, .int 0, .int 1, .int 0, .int (-1), .int 0, .int 0, .int 0, .int 0, .int 0, .long 0])), (mj, .inr (4, [.int 0, .ref e0, .int 0]))] H := hP
  have hD : va_D A [(g0, .inr (16, [.ref mj, .ref mq, .ref mm, .ref ms, .ref mf, .ref ml, .int 0, .int 0, .int 1, .int 0, .int (-1), .int 0, .int 0, .int 0, .int 0, .int 0, .long 0])), (mj, .inr (4, [.int 0, .ref e0, .int 0]))] := hD
  refine W.widen (k := 0) (n := 0) (Nat.le_of_ble_eq_true rfl) (Nat.le_of_ble_eq_true rfl) ?_
  refine lv_if_le (tgt := 12) hx hb dX11_meanArea_5 (by decide) (fun _ => ?_) (fun c_9 => absurd (by decide) c_9)
  refine lv_iconst (v := 0) hx hb dX11_meanArea_12 (by decide) ?_
  refine lv_iconst (v := 1) hx hb dX11_meanArea_13 (by decide) ?_
  have hPc := hP.sub (ws' := [(g0, .inr (16, [.ref mj, .ref mq, .ref mm, .ref ms, .ref mf, .ref ml, .int 0, .int 0, .int 1, .int 0, .int (-1), .int 0, .int 0, .int 0, .int 0, .int 0, .long 0]))]) [0] rfl
  have hDc := hD.sub (ws' := [(g0, .inr (16, [.ref mj, .ref mq, .ref mm, .ref ms, .ref mf, .ref ml, .int 0, .int 0, .int 1, .int 0, .int (-1), .int 0, .int 0, .int 0, .int 0, .int 0, .long 0]))]) [0] (by decide) rfl
  have hKc := hK.sub (tys' := []) [] rfl
  have hFc := va_free (wc := [(g0, .inr (16, [.ref mj, .ref mq, .ref mm, .ref ms, .ref mf, .ref ml, .int 0, .int 0, .int 1, .int 0, .int (-1), .int 0, .int 0, .int 0, .int 0, .int 0, .long 0]))]) hD hS hA [0] rfl
  refine va_calli (va_runV (As := [.int 0, .int 1]) (rest := []) ⟨hx, hb, hml, hown, hts⟩ (c_X11_no0 l dC dI e0 g0 1 mj mq mm ms mf ml 0 H.size) (cwV 2 hts (goodIn_sub (fun _ h9 => List.mem_cons_of_mem _ (List.mem_append_right _ (List.mem_append_right _ h9))) (by decide +kernel)) rfl rfl rfl (by decide +kernel) ⟨(Nat.le_of_ble_eq_true rfl), (Nat.le_of_ble_eq_true rfl)⟩) ⟨fz_blind, va_recv hKc hPc (ci := 16) (q0 := 0) rfl rfl, fz_pre hPc hKc hDc hAm hS hFc⟩ rfl rfl hl.1 rfl (lv_room (Nat.le_of_ble_eq_true rfl)) dX11_meanArea_14 ⟨(Nat.le_of_ble_eq_true rfl), (Nat.le_of_ble_eq_true rfl)⟩) hS (fun q _ h => hFc q h) hFc (fun r u t H1 locs ht hvm hw hB hz1 hk1 hS => ?_)
  obtain rfl := hw
  obtain ⟨hP1, hK1, hD1⟩ := hB
  rw [ht] at hP1
  have hK1 := va_K.moved hvm.symm hK1
  obtain ⟨hP, hD⟩ := va_join (wr := [(mj, .inr (4, [.int 0, .ref e0, .int 0]))]) (w1 := [(g0, .inr (16, [.ref mj, .ref mq, .ref mm, .ref ms, .ref mf, .ref ml, .int 1, .int 0, .int 1, .int 0, .int (-1), .int 0, .int 0, .int 0, .int 0, .int 0, .long 0]))]) hP hD [0] [1] rfl rfl (by decide) (by decide) hk1 hFc hP1 hD1
  generalize H1 = H at hP hS ⊢
  have hP : va_P (dC, dI) vwCl [(mj, .inr (4, [.int 0, .ref e0, .int 0])), (g0, .inr (16, [.ref mj, .ref mq, .ref mm, .ref ms, .ref mf, .ref ml, .int 1, .int 0, .int 1, .int 0, .int (-1), .int 0, .int 0, .int 0, .int 0, .int 0, .long 0]))] H := hP
  have hD : va_D A [(mj, .inr (4, [.int 0, .ref e0, .int 0])), (g0, .inr (16, [.ref mj, .ref mq, .ref mm, .ref ms, .ref mf, .ref ml, .int 1, .int 0, .int 1, .int 0, .int (-1), .int 0, .int 0, .int 0, .int 0, .int 0, .long 0]))] := hD
  have hK : va_K (dC, dI) vwCl [] s := hK
  refine W.widen (k := 0) (n := 0) (Nat.le_of_ble_eq_true rfl) (Nat.le_of_ble_eq_true rfl) ?_
  refine lv_if_eq (tgt := 22) hx hb dX11_meanArea_17 (by decide) (fun c_9 => absurd c_9 (by decide)) (fun _ => ?_)
  refine lv_dconst0 hx hb dX11_meanArea_20 ?_
  have hP9 := hP.sub (ws' := [(g0, .inr (16, [.ref mj, .ref mq, .ref mm, .ref ms, .ref mf, .ref ml, .int 1, .int 0, .int 1, .int 0, .int (-1), .int 0, .int 0, .int 0, .int 0, .int 0, .long 0]))]) [1] rfl
  have hD9 := hD.sub (ws' := [(g0, .inr (16, [.ref mj, .ref mq, .ref mm, .ref ms, .ref mf, .ref ml, .int 1, .int 0, .int 1, .int 0, .int (-1), .int 0, .int 0, .int 0, .int 0, .int 0, .long 0]))]) [1] (by decide) rfl
  have hK9 := hK.sub (tys' := []) [] rfl
  refine W.widen (k := 0) (n := 0) (Nat.le_of_ble_eq_true rfl) (Nat.le_of_ble_eq_true rfl) ?_
  exact W.dret (v := FP.dconst0) hx hb hr (fun t ht hW => ⟨⟨FP.dconst0, (), rfl, trivial, ⟨by rw [ht]; exact hP9, va_K.moved hW.alike hK9, hD9⟩⟩, hS.F ht⟩) hS.2.2 dX11_meanArea_21
def v_c_X11_isSound : List Cond := .code yX11_isSound cX11_isSound 1 (some .boolean) :: ([] ++ (([] : List Cond)))
set_option maxRecDepth 20000 in
theorem i_c_X11_isSound : ∀ w ∈ v_c_X11_isSound, w ∈ lw_tbl := List.forall_mem_cons.mpr ⟨List.mem_of_getElem? (i := 1884) (by decide +kernel), List.forall_mem_append.mpr ⟨fun _ h => absurd h List.not_mem_nil, fun _ h => absurd h List.not_mem_nil⟩⟩
set_option maxHeartbeats 4000000 in
set_option maxRecDepth 100000 in
theorem c_X11_isSound (l : Launch) (dC : Nat → ClassId) (dI : Nat → Nat → Nat) (e0 : Nat) (g0 mj mq mm ms mf ml : Nat) (sz : Nat) : Met l yX11_isSound v_c_X11_isSound ({ frames := 0, cells := 0, slots := 0, locals := 0 }) (fz_P (dC, dI) e0 [(g0, .inr (16, [.ref mj, .ref mq, .ref mm, .ref ms, .ref mf, .ref ml, .int 0, .int 0, .int 1, .int 0, .int (-1), .int 0, .int 0, .int 0, .int 0, .int 0, .long 0]))] [] sz (fun q : Nat => sz ≤ q) [.ref g0]) (va_Qi (fun (r : Int32) (u : Unit) => r = 1) (fun (u : Unit) (t : State) => True) (fun q : Nat => sz ≤ q)) 0 0 (fun q : Nat => sz ≤ q) := by
  refine Met.ofW (cc := cX11_isSound) (maxL := 1) (ret := (some .boolean)) (by decide) rfl ?_
  intro p e s m args below meth c s₁ B hml hv
  obtain ⟨rfl, hsz, hP, hK, hD0, hAm⟩ := hv
  have hx := B.exec
  have hb := B.bytes
  have hr := B.returns
  have hts := atoms_spec (ws := v_c_X11_isSound) B.pre
  have hown : s.vm.findClass RX11 = some m.cls := findClass_of_methodNamed B.named
  have hlocks := B.notSynchronized
  subst hsz
  have hD := hD0
  generalize hAe : (fun q : Nat => s.heap.size ≤ q) = A at hAm ⊢
  have hA : ∀ q : Nat, s.heap.size ≤ q → A q := fun q h => by rw [← hAe]; exact h
  have hS : va_S A s.heap s.heap [] := va_S.rf
  have hP : va_P (dC, dI) vwCl [(g0, .inr (16, [.ref mj, .ref mq, .ref mm, .ref ms, .ref mf, .ref ml, .int 0, .int 0, .int 1, .int 0, .int (-1), .int 0, .int 0, .int 0, .int 0, .int 0, .long 0]))] s.heap := hP
  have hl := lv_entry ([.ref g0]) (n := 1) (Nat.le_of_ble_eq_true rfl)
  rw [lg_entry_eq]
  generalize (lg_sl ([.ref g0]) ++ List.replicate (1 - (lg_sl ([.ref g0])).length) Slot.unset).toArray = ls at hl ⊢
  have hl : lv_has ls 1 [(0, .ref g0)] := hl
  refine lv_iconst (v := 1) hx hb dX11_isSound_0 (by decide) ?_
  refine W.widen (k := 0) (n := 0) (Nat.le_of_ble_eq_true rfl) (Nat.le_of_ble_eq_true rfl) ?_
  exact W.zret (v := 1) hx hb hr rfl (fun t ht hW => ⟨⟨1, (), rfl, rfl, trivial⟩, hS.F ht⟩) hS.2.2 dX11_isSound_1
