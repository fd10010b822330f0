def v_c_X7_drawJoint : List Cond := .code yX7_drawJoint cX7_drawJoint 6 (some .int) :: ([.fieldLink RX7 10 "VoussoirYard" "drawing" "LVoussoirYard$Drawing;", .fieldLink RX7 78 "VoussoirYard$Drawing" "count" "I"] ++ (wsX70 ++ (wsX10 ++ (wsS RX7 81 yX7_isOnPaper v_c_X7_isOnPaper ++ (wsV RX7 92 RX1 yX1_propose v_c_X1_propose ++ (wsV RX7 96 RX1 yX1_allowsProposal v_c_X1_allowsProposal ++ (wsV RX7 102 RX7 yX7_filledPlaces v_c_X7_filledPlaces ++ (wsV RX7 116 RX1 yX1_acceptNewJoint v_c_X1_acceptNewJoint ++ (fz_w_IllegalArgument)))))))))
set_option maxRecDepth 20000 in
theorem i_c_X7_drawJoint : ∀ w ∈ v_c_X7_drawJoint, w ∈ lw_tbl := List.forall_mem_cons.mpr ⟨List.mem_of_getElem? (i := 433) (by decide +kernel), List.forall_mem_append.mpr ⟨List.forall_mem_cons.mpr ⟨List.mem_of_getElem? (i := 219) (by decide +kernel), List.forall_mem_cons.mpr ⟨List.mem_of_getElem? (i := 152) (by decide +kernel), fun _ h => absurd h List.not_mem_nil⟩⟩, List.forall_mem_append.mpr ⟨inX7, List.forall_mem_append.mpr ⟨inX1, List.forall_mem_append.mpr ⟨(by unfold wsS; exact List.forall_mem_append.mpr ⟨List.forall_mem_cons.mpr ⟨List.mem_of_getElem? (i := 434) (by decide +kernel), List.forall_mem_cons.mpr ⟨List.mem_of_getElem? (i := 435) (by decide +kernel), List.forall_mem_cons.mpr ⟨List.mem_of_getElem? (i := 49) (by decide +kernel), fun _ h => absurd h List.not_mem_nil⟩⟩⟩, i_c_X7_isOnPaper⟩), List.forall_mem_append.mpr ⟨(by unfold wsV; exact List.forall_mem_append.mpr ⟨List.forall_mem_cons.mpr ⟨List.mem_of_getElem? (i := 509) (by decide +kernel), List.forall_mem_cons.mpr ⟨List.mem_of_getElem? (i := 510) (by decide +kernel), List.forall_mem_cons.mpr ⟨List.mem_of_getElem? (i := 511) (by decide +kernel), List.forall_mem_cons.mpr ⟨List.mem_of_getElem? (i := 50) (by decide +kernel), fun _ h => absurd h List.not_mem_nil⟩⟩⟩⟩, i_c_X1_propose⟩), List.forall_mem_append.mpr ⟨(by unfold wsV; exact List.forall_mem_append.mpr ⟨List.forall_mem_cons.mpr ⟨List.mem_of_getElem? (i := 517) (by decide +kernel), List.forall_mem_cons.mpr ⟨List.mem_of_getElem? (i := 518) (by decide +kernel), List.forall_mem_cons.mpr ⟨List.mem_of_getElem? (i := 519) (by decide +kernel), List.forall_mem_cons.mpr ⟨List.mem_of_getElem? (i := 50) (by decide +kernel), fun _ h => absurd h List.not_mem_nil⟩⟩⟩⟩, i_c_X1_allowsProposal⟩), List.forall_mem_append.mpr ⟨(by unfold wsV; exact List.forall_mem_append.mpr ⟨List.forall_mem_cons.mpr ⟨List.mem_of_getElem? (i := 287) (by decide +kernel), List.forall_mem_cons.mpr ⟨List.mem_of_getElem? (i := 289) (by decide +kernel), List.forall_mem_cons.mpr ⟨List.mem_of_getElem? (i := 1) (by decide +kernel), List.forall_mem_cons.mpr ⟨List.mem_of_getElem? (i := 49) (by decide +kernel), fun _ h => absurd h List.not_mem_nil⟩⟩⟩⟩, i_c_X7_filledPlaces⟩), List.forall_mem_append.mpr ⟨(by unfold wsV; exact List.forall_mem_append.mpr ⟨List.forall_mem_cons.mpr ⟨List.mem_of_getElem? (i := 566) (by decide +kernel), List.forall_mem_cons.mpr ⟨List.mem_of_getElem? (i := 567) (by decide +kernel), List.forall_mem_cons.mpr ⟨List.mem_of_getElem? (i := 568) (by decide +kernel), List.forall_mem_cons.mpr ⟨List.mem_of_getElem? (i := 50) (by decide +kernel), fun _ h => absurd h List.not_mem_nil⟩⟩⟩⟩, i_c_X1_acceptNewJoint⟩), fz_wi_IllegalArgument⟩⟩⟩⟩⟩⟩⟩⟩⟩
theorem q_c_X7_drawJoint_0 {p0 p1 p2 p3 : Int32} (hp_1 : fz_in p0 0 20) (hp_2 : fz_in p1 0 20) (hp_4 : fz_in p2 0 20) (hp_5 : fz_in p3 0 20) (hp_7 : ¬ (p0 = p2 ∧ p1 = p3)) : fz_v p0 p1 p2 p3 := by
  first | assumption | (simp_all [fz_in, fz_v]; done) | (simp only [fz_in, fz_v] at *; grind)
theorem q_c_X7_drawJoint_1 {p0 p1 p2 p3 : Int32} (hp_1 : fz_in p0 0 20) (hp_2 : fz_in p1 0 20) (hp_4 : fz_in p2 0 20) (hp_5 : fz_in p3 0 20) (hp_8 : p0 = p2 ∧ p1 = p3) : ¬ fz_v p0 p1 p2 p3 := by
  first | assumption | (simp_all [fz_in, fz_v]; done) | (simp only [fz_in, fz_v] at *; grind)
theorem q_c_X7_drawJoint_2 {p0 p1 p2 p3 : Int32} (hp_1 : fz_in p0 0 20) (hp_2 : fz_in p1 0 20) (hp_6 : ¬ (fz_in p2 0 20 ∧ fz_in p3 0 20)) : ¬ fz_v p0 p1 p2 p3 := by
  first | assumption | (simp_all [fz_in, fz_v]; done) | (simp only [fz_in, fz_v] at *; grind)
theorem q_c_X7_drawJoint_3 {p0 p1 p2 p3 : Int32} (hp_3 : ¬ (fz_in p0 0 20 ∧ fz_in p1 0 20)) : ¬ fz_v p0 p1 p2 p3 := by
  first | assumption | (simp_all [fz_in, fz_v]; done) | (simp only [fz_in, fz_v] at *; grind)
set_option maxHeartbeats 4000000 in
set_option maxRecDepth 100000 in
theorem c_X7_drawJoint (l : Launch) (dC : Nat → ClassId) (dI : Nat → Nat → Nat) (e0 : Nat) (hlT : l.stackTraces = false) (h0 : Nat) (p0 p1 p2 p3 : Int32) (hd hse hki hma hst hsp hlp htl hj hpr hqd : Nat) (cR : ClassId) (hj0 : Nat) (fj : Nat → Option Nat) (cI : ClassId) (fsp : Nat → Int32) (sz : Nat) (hj0f : fj 0 = some hj0) (hspf : ∀ j : Nat, j < 8 → fsp j = -1) : vx_Met l yX7_drawJoint v_c_X7_drawJoint ({ frames := 7, cells := 1, slots := 6, locals := 100 }) (fz_P (dC, dI) e0 [(h0, .inr (12, [.ref hd, .ref hse, .ref hki, .ref hma, .ref hst, .ref hsp, .ref hlp, .ref htl, .int 0, .int 0, .int 0, .int 0, .int 0, .int 0, .int 0, .long ((0 : Int32).toInt64)])), (hd, .inr (6, [.ref hj, .ref hpr, .ref hqd, .int 0, .int 0, .int 1])), (hj, .inl (cR, 8, .inr (.inr (.inr (.inr fj))))), (hj0, .inr (7, [.int 0, .int 0, .int 0, .int 0])), (hpr, .inr (7, [.int 0, .int 0, .int 0, .int 0])), (hsp, .inl (cI, 8, .inl fsp))] [(cR, .object RX2), (cI, .int)] sz (va_A [(h0, .inr (12, [.ref hd, .ref hse, .ref hki, .ref hma, .ref hst, .ref hsp, .ref hlp, .ref htl, .int 0, .int 0, .int 0, .int 0, .int 0, .int 0, .int 0, .long ((0 : Int32).toInt64)])), (hd, .inr (6, [.ref hj, .ref hpr, .ref hqd, .int 0, .int 0, .int 1])), (hj, .inl (cR, 8, .inr (.inr (.inr (.inr fj))))), (hj0, .inr (7, [.int 0, .int 0, .int 0, .int 0])), (hpr, .inr (7, [.int 0, .int 0, .int 0, .int 0])), (hsp, .inl (cI, 8, .inl fsp))] sz) [.ref h0, .int p0, .int p1, .int p2, .int p3]) (va_Qi (fun (r : Int32) (u : Unit) => r = 0 ∧ fz_v p0 p1 p2 p3) (fun (u : Unit) (t : State) => True) (va_A [(h0, .inr (12, [.ref hd, .ref hse, .ref hki, .ref hma, .ref hst, .ref hsp, .ref hlp, .ref htl, .int 0, .int 0, .int 0, .int 0, .int 0, .int 0, .int 0, .long ((0 : Int32).toInt64)])), (hd, .inr (6, [.ref hj, .ref hpr, .ref hqd, .int 0, .int 0, .int 1])), (hj, .inl (cR, 8, .inr (.inr (.inr (.inr fj))))), (hj0, .inr (7, [.int 0, .int 0, .int 0, .int 0])), (hpr, .inr (7, [.int 0, .int 0, .int 0, .int 0])), (hsp, .inl (cI, 8, .inl fsp))] sz)) (vx_X (fun _ : Unit => True) (fun (E : String) (_ : Unit) (_ : State) => (E = "java/lang/IllegalArgumentException" ∧ ¬ fz_v p0 p1 p2 p3)) (va_A [(h0, .inr (12, [.ref hd, .ref hse, .ref hki, .ref hma, .ref hst, .ref hsp, .ref hlp, .ref htl, .int 0, .int 0, .int 0, .int 0, .int 0, .int 0, .int 0, .long ((0 : Int32).toInt64)])), (hd, .inr (6, [.ref hj, .ref hpr, .ref hqd, .int 0, .int 0, .int 1])), (hj, .inl (cR, 8, .inr (.inr (.inr (.inr fj))))), (hj0, .inr (7, [.int 0, .int 0, .int 0, .int 0])), (hpr, .inr (7, [.int 0, .int 0, .int 0, .int 0])), (hsp, .inl (cI, 8, .inl fsp))] sz)) 1 6 (va_A [(h0, .inr (12, [.ref hd, .ref hse, .ref hki, .ref hma, .ref hst, .ref hsp, .ref hlp, .ref htl, .int 0, .int 0, .int 0, .int 0, .int 0, .int 0, .int 0, .long ((0 : Int32).toInt64)])), (hd, .inr (6, [.ref hj, .ref hpr, .ref hqd, .int 0, .int 0, .int 1])), (hj, .inl (cR, 8, .inr (.inr (.inr (.inr fj))))), (hj0, .inr (7, [.int 0, .int 0, .int 0, .int 0])), (hpr, .inr (7, [.int 0, .int 0, .int 0, .int 0])), (hsp, .inl (cI, 8, .inl fsp))] sz) := by
  refine vx_ofW (cc := cX7_drawJoint) (maxL := 6) (ret := (some .int)) (by decide) rfl ?_
  intro p e s m args below meth c s₁ B hml htab hv
  obtain ⟨rfl, hsz, hP, hK, hD0, hAm⟩ := hv
  have hx := B.exec
  have hb := B.bytes
  have hr := B.returns
  have hts := atoms_spec (ws := v_c_X7_drawJoint) B.pre
  have hown : s.vm.findClass RX7 = some m.cls := findClass_of_methodNamed B.named
  have hlocks := B.notSynchronized
  subst hsz
  have hD := hD0.self (sz := s.heap.size)
  generalize hAe : va_A [(h0, .inr (12, [.ref hd, .ref hse, .ref hki, .ref hma, .ref hst, .ref hsp, .ref hlp, .ref htl, .int 0, .int 0, .int 0, .int 0, .int 0, .int 0, .int 0, .long ((0 : Int32).toInt64)])), (hd, .inr (6, [.ref hj, .ref hpr, .ref hqd, .int 0, .int 0, .int 1])), (hj, .inl (cR, 8, .inr (.inr (.inr (.inr fj))))), (hj0, .inr (7, [.int 0, .int 0, .int 0, .int 0])), (hpr, .inr (7, [.int 0, .int 0, .int 0, .int 0])), (hsp, .inl (cI, 8, .inl fsp))] s.heap.size = A at hD hAm ⊢
  have hA : ∀ q : Nat, s.heap.size ≤ q → A q := fun q h => by rw [← hAe]; exact Or.inr h
  have hS : va_S A s.heap s.heap [] := va_S.rf
  have hP : va_P (dC, dI) vwCl [(h0, .inr (12, [.ref hd, .ref hse, .ref hki, .ref hma, .ref hst, .ref hsp, .ref hlp, .ref htl, .int 0, .int 0, .int 0, .int 0, .int 0, .int 0, .int 0, .long ((0 : Int32).toInt64)])), (hd, .inr (6, [.ref hj, .ref hpr, .ref hqd, .int 0, .int 0, .int 1])), (hj, .inl (cR, 8, .inr (.inr (.inr (.inr fj))))), (hj0, .inr (7, [.int 0, .int 0, .int 0, .int 0])), (hpr, .inr (7, [.int 0, .int 0, .int 0, .int 0])), (hsp, .inl (cI, 8, .inl fsp))] s.heap := hP
  have hl := lv_entry ([.ref h0, .int p0, .int p1, .int p2, .int p3]) (n := 6) (Nat.le_of_ble_eq_true rfl)
  rw [lg_entry_eq]
  generalize (lg_sl ([.ref h0, .int p0, .int p1, .int p2, .int p3]) ++ List.replicate (6 - (lg_sl ([.ref h0, .int p0, .int p1, .int p2, .int p3])).length) Slot.unset).toArray = ls at hl ⊢
  have hl : lv_has ls 6 [(0, .ref h0), (1, .int p0), (2, .int p1), (3, .int p2), (4, .int p3)] := hl
  refine lv_aload_n hx hb dX7_drawJoint_0 rfl (lv_at hl 0 rfl) ?_
  refine va_get (D := (dC, dI)) (ci := 12) (v := .ref hd) (C := RX7) (T := TX7) (N := 16) hx hb hts (fun _ h9 => List.mem_cons_of_mem _ (List.mem_append_right _ (List.mem_append_left _ h9))) hown hK hP 0 rfl rfl 0 (by decide) (hts _ (List.mem_cons_of_mem _ (List.mem_append_left _ (List.mem_of_getElem? (i := 0) rfl)))) (fun _ h9 => h9) rfl dX7_drawJoint_1 ?_
  refine va_get (D := (dC, dI)) (ci := 6) (v := .int 0) (C := RX1) (T := TX1) (N := 6) hx hb hts (fun _ h9 => List.mem_cons_of_mem _ (List.mem_append_right _ (List.mem_append_right _ (List.mem_append_left _ h9)))) hown hK hP 1 rfl rfl 3 (by decide) (hts _ (List.mem_cons_of_mem _ (List.mem_append_left _ (List.mem_of_getElem? (i := 1) rfl)))) (fun _ h9 => h9) rfl dX7_drawJoint_4 ?_
  refine lv_istore (lv' := [(5, .int 0), (0, .ref h0), (1, .int p0), (2, .int p1), (3, .int p2), (4, .int p3)]) hx hb dX7_drawJoint_7 hl (by decide) rfl (fun ls hl => ?_)
  refine lv_iload_n hx hb dX7_drawJoint_9 rfl (lv_at hl 2 rfl) ?_
  refine lv_iload_n hx hb dX7_drawJoint_10 rfl (lv_at hl 3 rfl) ?_
  have hPc := hP.sub (ws' := []) [] rfl
  have hDc := hD.sub (ws' := []) [] (by decide) rfl
  have hKc := hK.sub (tys' := []) [] rfl
  have hFc : ∀ q : Nat, s.heap.size ≤ q → A q := fun q h => hA q (Nat.le_trans hS.1 h)
  refine va_calli (va_runS (As := [.int p0, .int p1]) (rest := []) ⟨hx, hb, hml, hown, hts⟩ (c_X7_isOnPaper l dC dI e0 p0 p1 s.heap.size) (cwS 2 hts (goodIn_sub (fun _ h9 => List.mem_cons_of_mem _ (List.mem_append_right _ (List.mem_append_right _ (List.mem_append_right _ (List.mem_append_left _ h9))))) (by decide +kernel)) rfl rfl rfl (by decide +kernel) ⟨(Nat.le_of_ble_eq_true rfl), (Nat.le_of_ble_eq_true rfl)⟩) ⟨fz_blind, fz_pre hPc hKc hDc hAm hS hFc⟩ rfl rfl hl.1 rfl (lv_room (Nat.le_of_ble_eq_true rfl)) dX7_drawJoint_11 ⟨(Nat.le_of_ble_eq_true rfl), (Nat.le_of_ble_eq_true rfl)⟩) hS (fun q _ h => hFc q h) hFc (fun r u t H1 locs ht hvm hw hB hz1 hk1 hS => ?_)
  rcases hw with ⟨rfl, hp_1, hp_2⟩ | ⟨rfl, hp_3⟩
  · have hP := fz_keep hP hk1
    generalize H1 = H at hP hS ⊢
    have hP : va_P (dC, dI) vwCl [(h0, .inr (12, [.ref hd, .ref hse, .ref hki, .ref hma, .ref hst, .ref hsp, .ref hlp, .ref htl, .int 0, .int 0, .int 0, .int 0, .int 0, .int 0, .int 0, .long ((0 : Int32).toInt64)])), (hd, .inr (6, [.ref hj, .ref hpr, .ref hqd, .int 0, .int 0, .int 1])), (hj, .inl (cR, 8, .inr (.inr (.inr (.inr fj))))), (hj0, .inr (7, [.int 0, .int 0, .int 0, .int 0])), (hpr, .inr (7, [.int 0, .int 0, .int 0, .int 0])), (hsp, .inl (cI, 8, .inl fsp))] H := hP
    have hD : va_D A [(h0, .inr (12, [.ref hd, .ref hse, .ref hki, .ref hma, .ref hst, .ref hsp, .ref hlp, .ref htl, .int 0, .int 0, .int 0, .int 0, .int 0, .int 0, .int 0, .long ((0 : Int32).toInt64)])), (hd, .inr (6, [.ref hj, .ref hpr, .ref hqd, .int 0, .int 0, .int 1])), (hj, .inl (cR, 8, .inr (.inr (.inr (.inr fj))))), (hj0, .inr (7, [.int 0, .int 0, .int 0, .int 0])), (hpr, .inr (7, [.int 0, .int 0, .int 0, .int 0])), (hsp, .inl (cI, 8, .inl fsp))] := hD
    refine W.widen (k := 0) (n := 0) (Nat.le_of_ble_eq_true rfl) (Nat.le_of_ble_eq_true rfl) ?_
    refine lv_if_eq (tgt := 26) hx hb dX7_drawJoint_14 (by decide) (fun c_9 => absurd c_9 (by decide)) (fun _ => ?_)
    refine lv_iload_n hx hb dX7_drawJoint_17 rfl (lv_at hl 4 rfl) ?_
    refine lv_iload hx hb dX7_drawJoint_18 (lv_at hl 5 rfl) ?_
    have hPc := hP.sub (ws' := []) [] rfl
    have hDc := hD.sub (ws' := []) [] (by decide) rfl
    have hKc := hK.sub (tys' := []) [] rfl
    have hFc : ∀ q : Nat, H.size ≤ q → A q := fun q h => hA q (Nat.le_trans hS.1 h)
    refine va_calli (va_runS (As := [.int p2, .int p3]) (rest := []) ⟨hx, hb, hml, hown, hts⟩ (c_X7_isOnPaper l dC dI e0 p2 p3 H.size) (cwS 2 hts (goodIn_sub (fun _ h9 => List.mem_cons_of_mem _ (List.mem_append_right _ (List.mem_append_right _ (List.mem_append_right _ (List.mem_append_left _ h9))))) (by decide +kernel)) rfl rfl rfl (by decide +kernel) ⟨(Nat.le_of_ble_eq_true rfl), (Nat.le_of_ble_eq_true rfl)⟩) ⟨fz_blind, fz_pre hPc hKc hDc hAm hS hFc⟩ rfl rfl hl.1 rfl (lv_room (Nat.le_of_ble_eq_true rfl)) dX7_drawJoint_20 ⟨(Nat.le_of_ble_eq_true rfl), (Nat.le_of_ble_eq_true rfl)⟩) hS (fun q _ h => hFc q h) hFc (fun r u t H1 locs ht hvm hw hB hz1 hk1 hS => ?_)
    rcases hw with ⟨rfl, hp_4, hp_5⟩ | ⟨rfl, hp_6⟩
    · have hP := fz_keep hP hk1
      generalize H1 = H at hP hS ⊢
      have hP : va_P (dC, dI) vwCl [(h0, .inr (12, [.ref hd, .ref hse, .ref hki, .ref hma, .ref hst, .ref hsp, .ref hlp, .ref htl, .int 0, .int 0, .int 0, .int 0, .int 0, .int 0, .int 0, .long ((0 : Int32).toInt64)])), (hd, .inr (6, [.ref hj, .ref hpr, .ref hqd, .int 0, .int 0, .int 1])), (hj, .inl (cR, 8, .inr (.inr (.inr (.inr fj))))), (hj0, .inr (7, [.int 0, .int 0, .int 0, .int 0])), (hpr, .inr (7, [.int 0, .int 0, .int 0, .int 0])), (hsp, .inl (cI, 8, .inl fsp))] H := hP
      have hD : va_D A [(h0, .inr (12, [.ref hd, .ref hse, .ref hki, .ref hma, .ref hst, .ref hsp, .ref hlp, .ref htl, .int 0, .int 0, .int 0, .int 0, .int 0, .int 0, .int 0, .long ((0 : Int32).toInt64)])), (hd, .inr (6, [.ref hj, .ref hpr, .ref hqd, .int 0, .int 0, .int 1])), (hj, .inl (cR, 8, .inr (.inr (.inr (.inr fj))))), (hj0, .inr (7, [.int 0, .int 0, .int 0, .int 0])), (hpr, .inr (7, [.int 0, .int 0, .int 0, .int 0])), (hsp, .inl (cI, 8, .inl fsp))] := hD
      refine W.widen (k := 0) (n := 0) (Nat.le_of_ble_eq_true rfl) (Nat.le_of_ble_eq_true rfl) ?_
      refine lv_if_ne (tgt := 36) hx hb dX7_drawJoint_23 (by decide) (fun _ => ?_) (fun c_9 => absurd c_9 (by decide))
      refine lv_aload_n hx hb dX7_drawJoint_36 rfl (lv_at hl 1 rfl) ?_
      refine va_get (D := (dC, dI)) (ci := 12) (v := .ref hd) (C := RX7) (T := TX7) (N := 16) hx hb hts (fun _ h9 => List.mem_cons_of_mem _ (List.mem_append_right _ (List.mem_append_left _ h9))) hown hK hP 0 rfl rfl 0 (by decide) (hts _ (List.mem_cons_of_mem _ (List.mem_append_left _ (List.mem_of_getElem? (i := 0) rfl)))) (fun _ h9 => h9) rfl dX7_drawJoint_37 ?_
      refine lv_iload_n hx hb dX7_drawJoint_40 rfl (lv_at hl 2 rfl) ?_
      refine lv_iload_n hx hb dX7_drawJoint_41 rfl (lv_at hl 3 rfl) ?_
      refine lv_iload_n hx hb dX7_drawJoint_42 rfl (lv_at hl 4 rfl) ?_
      refine lv_iload hx hb dX7_drawJoint_43 (lv_at hl 5 rfl) ?_
      have hPc := hP.sub (ws' := [(hd, .inr (6, [.ref hj, .ref hpr, .ref hqd, .int 0, .int 0, .int 1])), (hpr, .inr (7, [.int 0, .int 0, .int 0, .int 0]))]) [1, 4] rfl
      have hDc := hD.sub (ws' := [(hd, .inr (6, [.ref hj, .ref hpr, .ref hqd, .int 0, .int 0, .int 1])), (hpr, .inr (7, [.int 0, .int 0, .int 0, .int 0]))]) [1, 4] (by decide) rfl
      have hKc := hK.sub (tys' := []) [] rfl
      have hFc := va_free (wc := [(hd, .inr (6, [.ref hj, .ref hpr, .ref hqd, .int 0, .int 0, .int 1])), (hpr, .inr (7, [.int 0, .int 0, .int 0, .int 0]))]) hD hS hA [1, 4] rfl
      refine va_callv (va_runV (As := [.int p0, .int p1, .int p2, .int p3]) (rest := []) ⟨hx, hb, hml, hown, hts⟩ (c_X1_propose l dC dI e0 hd p0 p1 p2 p3 hj hpr hqd 0 0 0 0 H.size) (cwV 4 hts (goodIn_sub (fun _ h9 => List.mem_cons_of_mem _ (List.mem_append_right _ (List.mem_append_right _ (List.mem_append_right _ (List.mem_append_right _ (List.mem_append_left _ h9)))))) (by decide +kernel)) rfl rfl rfl (by decide +kernel) ⟨(Nat.le_of_ble_eq_true rfl), (Nat.le_of_ble_eq_true rfl)⟩) ⟨fz_blind, va_recv hKc hPc (ci := 6) (q0 := 0) rfl rfl, fz_pre hPc hKc hDc hAm hS hFc⟩ rfl rfl hl.1 rfl (lv_room (Nat.le_of_ble_eq_true rfl)) dX7_drawJoint_45 ⟨(Nat.le_of_ble_eq_true rfl), (Nat.le_of_ble_eq_true rfl)⟩) hS (fun q _ h => hFc q h) hFc (fun u t H1 locs ht hvm hw hB hz1 hk1 hS => ?_)
      obtain ⟨hP1, hK1, hD1⟩ := hB
      rw [ht] at hP1
      have hK1 := va_K.moved hvm.symm hK1
      obtain ⟨hP, hD⟩ := va_join (wr := [(h0, .inr (12, [.ref hd, .ref hse, .ref hki, .ref hma, .ref hst, .ref hsp, .ref hlp, .ref htl, .int 0, .int 0, .int 0, .int 0, .int 0, .int 0, .int 0, .long ((0 : Int32).toInt64)])), (hj, .inl (cR, 8, .inr (.inr (.inr (.inr fj))))), (hj0, .inr (7, [.int 0, .int 0, .int 0, .int 0])), (hsp, .inl (cI, 8, .inl fsp))]) (w1 := [(hd, .inr (6, [.ref hj, .ref hpr, .ref hqd, .int 0, .int 0, .int 1])), (hpr, .inr (7, [.int p0, .int p1, .int p2, .int p3]))]) hP hD [1, 4] [0, 2, 3, 5] rfl rfl (by decide) (by decide) hk1 hFc hP1 hD1
      generalize H1 = H at hP hS ⊢
      have hP : va_P (dC, dI) vwCl [(h0, .inr (12, [.ref hd, .ref hse, .ref hki, .ref hma, .ref hst, .ref hsp, .ref hlp, .ref htl, .int 0, .int 0, .int 0, .int 0, .int 0, .int 0, .int 0, .long ((0 : Int32).toInt64)])), (hj, .inl (cR, 8, .inr (.inr (.inr (.inr fj))))), (hj0, .inr (7, [.int 0, .int 0, .int 0, .int 0])), (hsp, .inl (cI, 8, .inl fsp)), (hd, .inr (6, [.ref hj, .ref hpr, .ref hqd, .int 0, .int 0, .int 1])), (hpr, .inr (7, [.int p0, .int p1, .int p2, .int p3]))] H := hP
      have hD : va_D A [(h0, .inr (12, [.ref hd, .ref hse, .ref hki, .ref hma, .ref hst, .ref hsp, .ref hlp, .ref htl, .int 0, .int 0, .int 0, .int 0, .int 0, .int 0, .int 0, .long ((0 : Int32).toInt64)])), (hj, .inl (cR, 8, .inr (.inr (.inr (.inr fj))))), (hj0, .inr (7, [.int 0, .int 0, .int 0, .int 0])), (hsp, .inl (cI, 8, .inl fsp)), (hd, .inr (6, [.ref hj, .ref hpr, .ref hqd, .int 0, .int 0, .int 1])), (hpr, .inr (7, [.int p0, .int p1, .int p2, .int p3]))] := hD
      have hK : va_K (dC, dI) vwCl [(cR, .object RX2), (cI, .int)] s := hK
      refine W.widen (k := 0) (n := 0) (Nat.le_of_ble_eq_true rfl) (Nat.le_of_ble_eq_true rfl) ?_
      refine lv_aload_n hx hb dX7_drawJoint_48 rfl (lv_at hl 1 rfl) ?_
      refine va_get (D := (dC, dI)) (ci := 12) (v := .ref hd) (C := RX7) (T := TX7) (N := 16) hx hb hts (fun _ h9 => List.mem_cons_of_mem _ (List.mem_append_right _ (List.mem_append_left _ h9))) hown hK hP 0 rfl rfl 0 (by decide) (hts _ (List.mem_cons_of_mem _ (List.mem_append_left _ (List.mem_of_getElem? (i := 0) rfl)))) (fun _ h9 => h9) rfl dX7_drawJoint_49 ?_
      refine lv_iload hx hb dX7_drawJoint_52 (lv_at hl 0 rfl) ?_
      have hPc := hP.sub (ws' := [(hd, .inr (6, [.ref hj, .ref hpr, .ref hqd, .int 0, .int 0, .int 1])), (hpr, .inr (7, [.int p0, .int p1, .int p2, .int p3]))]) [4, 5] rfl
      have hDc := hD.sub (ws' := [(hd, .inr (6, [.ref hj, .ref hpr, .ref hqd, .int 0, .int 0, .int 1])), (hpr, .inr (7, [.int p0, .int p1, .int p2, .int p3]))]) [4, 5] (by decide) rfl
      have hKc := hK.sub (tys' := []) [] rfl
      have hFc : ∀ q : Nat, H.size ≤ q → A q := fun q h => hA q (Nat.le_trans hS.1 h)
      refine va_calli (va_runV (As := [.int 0]) (rest := []) ⟨hx, hb, hml, hown, hts⟩ (c_X1_allowsProposal l dC dI e0 hd hj hpr hqd p0 p1 p2 p3 H.size) (cwV 1 hts (goodIn_sub (fun _ h9 => List.mem_cons_of_mem _ (List.mem_append_right _ (List.mem_append_right _ (List.mem_append_right _ (List.mem_append_right _ (List.mem_append_right _ (List.mem_append_left _ h9))))))) (by decide +kernel)) rfl rfl rfl (by decide +kernel) ⟨(Nat.le_of_ble_eq_true rfl), (Nat.le_of_ble_eq_true rfl)⟩) ⟨fz_blind, va_recv hKc hPc (ci := 6) (q0 := 0) rfl rfl, fz_pre hPc hKc hDc hAm hS hFc⟩ rfl rfl hl.1 rfl (lv_room (Nat.le_of_ble_eq_true rfl)) dX7_drawJoint_54 ⟨(Nat.le_of_ble_eq_true rfl), (Nat.le_of_ble_eq_true rfl)⟩) hS (fun q _ h => hFc q h) hFc (fun r u t H1 locs ht hvm hw hB hz1 hk1 hS => ?_)
      rcases hw with ⟨rfl, hp_7⟩ | ⟨rfl, hp_8⟩
      · have hP := fz_keep hP hk1
        generalize H1 = H at hP hS ⊢
        have hP : va_P (dC, dI) vwCl [(h0, .inr (12, [.ref hd, .ref hse, .ref hki, .ref hma, .ref hst, .ref hsp, .ref hlp, .ref htl, .int 0, .int 0, .int 0, .int 0, .int 0, .int 0, .int 0, .long ((0 : Int32).toInt64)])), (hj, .inl (cR, 8, .inr (.inr (.inr (.inr fj))))), (hj0, .inr (7, [.int 0, .int 0, .int 0, .int 0])), (hsp, .inl (cI, 8, .inl fsp)), (hd, .inr (6, [.ref hj, .ref hpr, .ref hqd, .int 0, .int 0, .int 1])), (hpr, .inr (7, [.int p0, .int p1, .int p2, .int p3]))] H := hP
        have hD : va_D A [(h0, .inr (12, [.ref hd, .ref hse, .ref hki, .ref hma, .ref hst, .ref hsp, .ref hlp, .ref htl, .int 0, .int 0, .int 0, .int 0, .int 0, .int 0, .int 0, .long ((0 : Int32).toInt64)])), (hj, .inl (cR, 8, .inr (.inr (.inr (.inr fj))))), (hj0, .inr (7, [.int 0, .int 0, .int 0, .int 0])), (hsp, .inl (cI, 8, .inl fsp)), (hd, .inr (6, [.ref hj, .ref hpr, .ref hqd, .int 0, .int 0, .int 1])), (hpr, .inr (7, [.int p0, .int p1, .int p2, .int p3]))] := hD
        refine W.widen (k := 0) (n := 0) (Nat.le_of_ble_eq_true rfl) (Nat.le_of_ble_eq_true rfl) ?_
        refine lv_if_ne (tgt := 70) hx hb dX7_drawJoint_57 (by decide) (fun _ => ?_) (fun c_9 => absurd c_9 (by decide))
        refine lv_aload_n hx hb dX7_drawJoint_70 rfl (lv_at hl 1 rfl) ?_
        have hPc := hP.sub (ws' := [(h0, .inr (12, [.ref hd, .ref hse, .ref hki, .ref hma, .ref hst, .ref hsp, .ref hlp, .ref htl, .int 0, .int 0, .int 0, .int 0, .int 0, .int 0, .int 0, .long ((0 : Int32).toInt64)])), (hsp, .inl (cI, 8, .inl fsp))]) [0, 3] rfl
        have hDc := hD.sub (ws' := [(h0, .inr (12, [.ref hd, .ref hse, .ref hki, .ref hma, .ref hst, .ref hsp, .ref hlp, .ref htl, .int 0, .int 0, .int 0, .int 0, .int 0, .int 0, .int 0, .long ((0 : Int32).toInt64)])), (hsp, .inl (cI, 8, .inl fsp))]) [0, 3] (by decide) rfl
        have hKc := hK.sub (tys' := [(cI, .int)]) [1] rfl
        have hFc : ∀ q : Nat, H.size ≤ q → A q := fun q h => hA q (Nat.le_trans hS.1 h)
        refine va_calli (va_runV (As := []) (rest := []) ⟨hx, hb, hml, hown, hts⟩ (c_X7_filledPlaces l dC dI e0 h0 hd hse hki hma hst hsp hlp htl cI fsp H.size hspf) (cwV 0 hts (goodIn_sub (fun _ h9 => List.mem_cons_of_mem _ (List.mem_append_right _ (List.mem_append_right _ (List.mem_append_right _ (List.mem_append_right _ (List.mem_append_right _ (List.mem_append_right _ (List.mem_append_left _ h9)))))))) (by decide +kernel)) rfl rfl rfl (by decide +kernel) ⟨(Nat.le_of_ble_eq_true rfl), (Nat.le_of_ble_eq_true rfl)⟩) ⟨fz_blind, va_recv hKc hPc (ci := 12) (q0 := 0) rfl rfl, fz_pre hPc hKc hDc hAm hS hFc⟩ rfl rfl hl.1 rfl (lv_room (Nat.le_of_ble_eq_true rfl)) dX7_drawJoint_71 ⟨(Nat.le_of_ble_eq_true rfl), (Nat.le_of_ble_eq_true rfl)⟩) hS (fun q _ h => hFc q h) hFc (fun r u t H1 locs ht hvm hw hB hz1 hk1 hS => ?_)
        obtain rfl := hw
        have hP := fz_keep hP hk1
        generalize H1 = H at hP hS ⊢
        have hP : va_P (dC, dI) vwCl [(h0, .inr (12, [.ref hd, .ref hse, .ref hki, .ref hma, .ref hst, .ref hsp, .ref hlp, .ref htl, .int 0, .int 0, .int 0, .int 0, .int 0, .int 0, .int 0, .long ((0 : Int32).toInt64)])), (hj, .inl (cR, 8, .inr (.inr (.inr (.inr fj))))), (hj0, .inr (7, [.int 0, .int 0, .int 0, .int 0])), (hsp, .inl (cI, 8, .inl fsp)), (hd, .inr (6, [.ref hj, .ref hpr, .ref hqd, .int 0, .int 0, .int 1])), (hpr, .inr (7, [.int p0, .int p1, .int p2, .int p3]))] H := hP
        have hD : va_D A [(h0, .inr (12, [.ref hd, .ref hse, .ref hki, .ref hma, .ref hst, .ref hsp, .ref hlp, .ref htl, .int 0, .int 0, .int 0, .int 0, .int 0, .int 0, .int 0, .long ((0 : Int32).toInt64)])), (hj, .inl (cR, 8, .inr (.inr (.inr (.inr fj))))), (hj0, .inr (7, [.int 0, .int 0, .int 0, .int 0])), (hsp, .inl (cI, 8, .inl fsp)), (hd, .inr (6, [.ref hj, .ref hpr, .ref hqd, .int 0, .int 0, .int 1])), (hpr, .inr (7, [.int p0, .int p1, .int p2, .int p3]))] := hD
        refine W.widen (k := 0) (n := 0) (Nat.le_of_ble_eq_true rfl) (Nat.le_of_ble_eq_true rfl) ?_
        refine lv_if_le (tgt := 87) hx hb dX7_drawJoint_74 (by decide) (fun _ => ?_) (fun c_9 => absurd (by decide) c_9)
        refine lv_iload hx hb dX7_drawJoint_87 (lv_at hl 0 rfl) ?_
        refine lv_bipush (v := 8) hx hb dX7_drawJoint_89 (by decide) ?_
        refine lv_icmp_lt (tgt := 104) hx hb dX7_drawJoint_91 (by decide) (fun _ => ?_) (fun c_9 => absurd (by decide) c_9)
        refine lv_aload_n hx hb dX7_drawJoint_104 rfl (lv_at hl 1 rfl) ?_
        refine va_get (D := (dC, dI)) (ci := 12) (v := .ref hd) (C := RX7) (T := TX7) (N := 16) hx hb hts (fun _ h9 => List.mem_cons_of_mem _ (List.mem_append_right _ (List.mem_append_left _ h9))) hown hK hP 0 rfl rfl 0 (by decide) (hts _ (List.mem_cons_of_mem _ (List.mem_append_left _ (List.mem_of_getElem? (i := 0) rfl)))) (fun _ h9 => h9) rfl dX7_drawJoint_105 ?_
        have hPc := hP.sub (ws' := [(hd, .inr (6, [.ref hj, .ref hpr, .ref hqd, .int 0, .int 0, .int 1])), (hj, .inl (cR, 8, .inr (.inr (.inr (.inr fj))))), (hj0, .inr (7, [.int 0, .int 0, .int 0, .int 0])), (hpr, .inr (7, [.int p0, .int p1, .int p2, .int p3]))]) [4, 1, 2, 5] rfl
        have hDc := hD.sub (ws' := [(hd, .inr (6, [.ref hj, .ref hpr, .ref hqd, .int 0, .int 0, .int 1])), (hj, .inl (cR, 8, .inr (.inr (.inr (.inr fj))))), (hj0, .inr (7, [.int 0, .int 0, .int 0, .int 0])), (hpr, .inr (7, [.int p0, .int p1, .int p2, .int p3]))]) [4, 1, 2, 5] (by decide) rfl
        have hKc := hK.sub (tys' := [(cR, .object RX2)]) [0] rfl
        have hFc := va_free (wc := [(hd, .inr (6, [.ref hj, .ref hpr, .ref hqd, .int 0, .int 0, .int 1])), (hj, .inl (cR, 8, .inr (.inr (.inr (.inr fj))))), (hj0, .inr (7, [.int 0, .int 0, .int 0, .int 0])), (hpr, .inr (7, [.int p0, .int p1, .int p2, .int p3]))]) hD hS hA [4, 1, 2, 5] rfl
        refine va_callv (va_runV (As := []) (rest := []) ⟨hx, hb, hml, hown, hts⟩ (c_X1_acceptNewJoint l dC dI e0 hd hj hpr hqd cR hj0 fj p0 p1 p2 p3 H.size hj0f) (cwV 0 hts (goodIn_sub (fun _ h9 => List.mem_cons_of_mem _ (List.mem_append_right _ (List.mem_append_right _ (List.mem_append_right _ (List.mem_append_right _ (List.mem_append_right _ (List.mem_append_right _ (List.mem_append_right _ (List.mem_append_left _ h9))))))))) (by decide +kernel)) rfl rfl rfl (by decide +kernel) ⟨(Nat.le_of_ble_eq_true rfl), (Nat.le_of_ble_eq_true rfl)⟩) ⟨fz_blind, va_recv hKc hPc (ci := 6) (q0 := 0) rfl rfl, fz_pre hPc hKc hDc hAm hS hFc⟩ rfl rfl hl.1 rfl (lv_room (Nat.le_of_ble_eq_true rfl)) dX7_drawJoint_108 ⟨(Nat.le_of_ble_eq_true rfl), (Nat.le_of_ble_eq_true rfl)⟩) hS (fun q _ h => hFc q h) hFc (fun u t H1 locs ht hvm hw hB hz1 hk1 hS => ?_)
        obtain ⟨hP, hD⟩ := fz_keepC (WC := [(hd, .inr (6, [.ref hj, .ref hpr, .ref hqd, .int 0, .int 0, .int 1])), (hj, .inl (cR, 8, .inr (.inr (.inr (.inr fj))))), (hj0, .inr (7, [.int 0, .int 0, .int 0, .int 0])), (hpr, .inr (7, [.int p0, .int p1, .int p2, .int p3]))]) (WR := [(h0, .inr (12, [.ref hd, .ref hse, .ref hki, .ref hma, .ref hst, .ref hsp, .ref hlp, .ref htl, .int 0, .int 0, .int 0, .int 0, .int 0, .int 0, .int 0, .long ((0 : Int32).toInt64)])), (hsp, .inl (cI, 8, .inl fsp))]) hP hD [4, 1, 2, 5] [0, 3] rfl rfl (by decide) (by decide) hk1 hFc
        generalize H1 = H at hP hS ⊢
        have hP : va_P (dC, dI) vwCl [(h0, .inr (12, [.ref hd, .ref hse, .ref hki, .ref hma, .ref hst, .ref hsp, .ref hlp, .ref htl, .int 0, .int 0, .int 0, .int 0, .int 0, .int 0, .int 0, .long ((0 : Int32).toInt64)])), (hsp, .inl (cI, 8, .inl fsp))] H := hP
        have hD : va_D A [(h0, .inr (12, [.ref hd, .ref hse, .ref hki, .ref hma, .ref hst, .ref hsp, .ref hlp, .ref htl, .int 0, .int 0, .int 0, .int 0, .int 0, .int 0, .int 0, .long ((0 : Int32).toInt64)])), (hsp, .inl (cI, 8, .inl fsp))] := hD
        have hK : va_K (dC, dI) vwCl [(cR, .object RX2), (cI, .int)] s := hK
        refine W.widen (k := 0) (n := 0) (Nat.le_of_ble_eq_true rfl) (Nat.le_of_ble_eq_true rfl) ?_
        refine lv_iload hx hb dX7_drawJoint_111 (lv_at hl 0 rfl) ?_
        refine W.widen (k := 1) (n := 6) (Nat.le_of_ble_eq_true rfl) (Nat.le_of_ble_eq_true rfl) ?_
        refine vx_ret ?_
        exact W.iret (v := 0) hx hb hr (fun t ht hW => ⟨⟨0, (), rfl, ⟨rfl, (q_c_X7_drawJoint_0 hp_1 hp_2 hp_4 hp_5 hp_7)⟩, trivial⟩, hS.F ht⟩) hS.2.2 dX7_drawJoint_113
      · have hP := fz_keep hP hk1
        generalize H1 = H at hP hS ⊢
        have hP : va_P (dC, dI) vwCl [(h0, .inr (12, [.ref hd, .ref hse, .ref hki, .ref hma, .ref hst, .ref hsp, .ref hlp, .ref htl, .int 0, .int 0, .int 0, .int 0, .int 0, .int 0, .int 0, .long ((0 : Int32).toInt64)])), (hj, .inl (cR, 8, .inr (.inr (.inr (.inr fj))))), (hj0, .inr (7, [.int 0, .int 0, .int 0, .int 0])), (hsp, .inl (cI, 8, .inl fsp)), (hd, .inr (6, [.ref hj, .ref hpr, .ref hqd, .int 0, .int 0, .int 1])), (hpr, .inr (7, [.int p0, .int p1, .int p2, .int p3]))] H := hP
        have hD : va_D A [(h0, .inr (12, [.ref hd, .ref hse, .ref hki, .ref hma, .ref hst, .ref hsp, .ref hlp, .ref htl, .int 0, .int 0, .int 0, .int 0, .int 0, .int 0, .int 0, .long ((0 : Int32).toInt64)])), (hj, .inl (cR, 8, .inr (.inr (.inr (.inr fj))))), (hj0, .inr (7, [.int 0, .int 0, .int 0, .int 0])), (hsp, .inl (cI, 8, .inl fsp)), (hd, .inr (6, [.ref hj, .ref hpr, .ref hqd, .int 0, .int 0, .int 1])), (hpr, .inr (7, [.int p0, .int p1, .int p2, .int p3]))] := hD
        refine W.widen (k := 0) (n := 0) (Nat.le_of_ble_eq_true rfl) (Nat.le_of_ble_eq_true rfl) ?_
        refine lv_if_ne (tgt := 70) hx hb dX7_drawJoint_57 (by decide) (fun c_9 => absurd (by decide) c_9) (fun _ => ?_)
        obtain ⟨sa_9, hst_9⟩ := hAm.1.2.2.2.2.2.1 _ fz_s_100
        have hq_9 : ∀ w ∈ fz_w_IllegalArgument, w.before _ s = true := fun w h9 => hts w (List.mem_cons_of_mem _ (List.mem_append_right _ (List.mem_append_right _ (List.mem_append_right _ (List.mem_append_right _ (List.mem_append_right _ (List.mem_append_right _ (List.mem_append_right _ (List.mem_append_right _ h9)))))))))
        exact vx_throwS (cls := "java/lang/IllegalArgumentException") (text := "the joint has no length or a place would not turn to the left") (names := ["java/lang/RuntimeException", "java/lang/Exception"]) (ik := 85) (is := 100) (ic := 89) (sa := sa_9) hx hb hlT hown (by decide +kernel) fz_nm_IllegalArgument (hq_9 _ List.mem_cons_self) (hq_9 _ (List.mem_cons_of_mem _ List.mem_cons_self)) hst_9 (fz_wf (ik := 0) hq_9 (fun _ h9 => List.mem_cons_of_mem _ (List.mem_cons_of_mem _ h9)) fz_ng_IllegalArgument (hAm.1.2.1 _ fz_x_IllegalArgument) hAm.1) fz_ot_IllegalArgument hAm.2.1 hAm.2.2.1 hS (hl.1.trans hml.symm) dX7_drawJoint_60 dX7_drawJoint_63 dX7_drawJoint_64 dX7_drawJoint_66 dX7_drawJoint_69 (fun x h9 => (htab x h9).elim) (by decide) (by decide) (Nat.le_of_ble_eq_true rfl) (Nat.le_of_ble_eq_true rfl) hlocks (fun t _ h1_9 h2_9 => ⟨(), trivial, ⟨rfl, (q_c_X7_drawJoint_1 hp_1 hp_2 hp_4 hp_5 hp_8)⟩, fz_xF hS h1_9 h2_9⟩) hS.2.2 (Nat.le_of_ble_eq_true rfl) (Nat.le_of_ble_eq_true rfl)
    · have hP := fz_keep hP hk1
      generalize H1 = H at hP hS ⊢
      have hP : va_P (dC, dI) vwCl [(h0, .inr (12, [.ref hd, .ref hse, .ref hki, .ref hma, .ref hst, .ref hsp, .ref hlp, .ref htl, .int 0, .int 0, .int 0, .int 0, .int 0, .int 0, .int 0, .long ((0 : Int32).toInt64)])), (hd, .inr (6, [.ref hj, .ref hpr, .ref hqd, .int 0, .int 0, .int 1])), (hj, .inl (cR, 8, .inr (.inr (.inr (.inr fj))))), (hj0, .inr (7, [.int 0, .int 0, .int 0, .int 0])), (hpr, .inr (7, [.int 0, .int 0, .int 0, .int 0])), (hsp, .inl (cI, 8, .inl fsp))] H := hP
      have hD : va_D A [(h0, .inr (12, [.ref hd, .ref hse, .ref hki, .ref hma, .ref hst, .ref hsp, .ref hlp, .ref htl, .int 0, .int 0, .int 0, .int 0, .int 0, .int 0, .int 0, .long ((0 : Int32).toInt64)])), (hd, .inr (6, [.ref hj, .ref hpr, .ref hqd, .int 0, .int 0, .int 1])), (hj, .inl (cR, 8, .inr (.inr (.inr (.inr fj))))), (hj0, .inr (7, [.int 0, .int 0, .int 0, .int 0])), (hpr, .inr (7, [.int 0, .int 0, .int 0, .int 0])), (hsp, .inl (cI, 8, .inl fsp))] := hD
      refine W.widen (k := 0) (n := 0) (Nat.le_of_ble_eq_true rfl) (Nat.le_of_ble_eq_true rfl) ?_
      refine lv_if_ne (tgt := 36) hx hb dX7_drawJoint_23 (by decide) (fun c_9 => absurd (by decide) c_9) (fun _ => ?_)
      obtain ⟨sa_9, hst_9⟩ := hAm.1.2.2.2.2.2.1 _ fz_s_87
      have hq_9 : ∀ w ∈ fz_w_IllegalArgument, w.before _ s = true := fun w h9 => hts w (List.mem_cons_of_mem _ (List.mem_append_right _ (List.mem_append_right _ (List.mem_append_right _ (List.mem_append_right _ (List.mem_append_right _ (List.mem_append_right _ (List.mem_append_right _ (List.mem_append_right _ h9)))))))))
      exact vx_throwS (cls := "java/lang/IllegalArgumentException") (text := "a number is out of range") (names := ["java/lang/RuntimeException", "java/lang/Exception"]) (ik := 85) (is := 87) (ic := 89) (sa := sa_9) hx hb hlT hown (by decide +kernel) fz_nm_IllegalArgument (hq_9 _ List.mem_cons_self) (hq_9 _ (List.mem_cons_of_mem _ List.mem_cons_self)) hst_9 (fz_wf (ik := 0) hq_9 (fun _ h9 => List.mem_cons_of_mem _ (List.mem_cons_of_mem _ h9)) fz_ng_IllegalArgument (hAm.1.2.1 _ fz_x_IllegalArgument) hAm.1) fz_ot_IllegalArgument hAm.2.1 hAm.2.2.1 hS (hl.1.trans hml.symm) dX7_drawJoint_26 dX7_drawJoint_29 dX7_drawJoint_30 dX7_drawJoint_32 dX7_drawJoint_35 (fun x h9 => (htab x h9).elim) (by decide) (by decide) (Nat.le_of_ble_eq_true rfl) (Nat.le_of_ble_eq_true rfl) hlocks (fun t _ h1_9 h2_9 => ⟨(), trivial, ⟨rfl, (q_c_X7_drawJoint_2 hp_1 hp_2 hp_6)⟩, fz_xF hS h1_9 h2_9⟩) hS.2.2 (Nat.le_of_ble_eq_true rfl) (Nat.le_of_ble_eq_true rfl)
  · have hP := fz_keep hP hk1
    generalize H1 = H at hP hS ⊢
    have hP : va_P (dC, dI) vwCl [(h0, .inr (12, [.ref hd, .ref hse, .ref hki, .ref hma, .ref hst, .ref hsp, .ref hlp, .ref htl, .int 0, .int 0, .int 0, .int 0, .int 0, .int 0, .int 0, .long ((0 : Int32).toInt64)])), (hd, .inr (6, [.ref hj, .ref hpr, .ref hqd, .int 0, .int 0, .int 1])), (hj, .inl (cR, 8, .inr (.inr (.inr (.inr fj))))), (hj0, .inr (7, [.int 0, .int 0, .int 0, .int 0])), (hpr, .inr (7, [.int 0, .int 0, .int 0, .int 0])), (hsp, .inl (cI, 8, .inl fsp))] H := hP
    have hD : va_D A [(h0, .inr (12, [.ref hd, .ref hse, .ref hki, .ref hma, .ref hst, .ref hsp, .ref hlp, .ref htl, .int 0, .int 0, .int 0, .int 0, .int 0, .int 0, .int 0, .long ((0 : Int32).toInt64)])), (hd, .inr (6, [.ref hj, .ref hpr, .ref hqd, .int 0, .int 0, .int 1])), (hj, .inl (cR, 8, .inr (.inr (.inr (.inr fj))))), (hj0, .inr (7, [.int 0, .int 0, .int 0, .int 0])), (hpr, .inr (7, [.int 0, .int 0, .int 0, .int 0])), (hsp, .inl (cI, 8, .inl fsp))] := hD
    refine W.widen (k := 0) (n := 0) (Nat.le_of_ble_eq_true rfl) (Nat.le_of_ble_eq_true rfl) ?_
    refine lv_if_eq (tgt := 26) hx hb dX7_drawJoint_14 (by decide) (fun _ => ?_) (fun c_9 => absurd (by decide) c_9)
    obtain ⟨sa_9, hst_9⟩ := hAm.1.2.2.2.2.2.1 _ fz_s_87
    have hq_9 : ∀ w ∈ fz_w_IllegalArgument, w.before _ s = true := fun w h9 => hts w (List.mem_cons_of_mem _ (List.mem_append_right _ (List.mem_append_right _ (List.mem_append_right _ (List.mem_append_right _ (List.mem_append_right _ (List.mem_append_right _ (List.mem_append_right _ (List.mem_append_right _ h9)))))))))
    exact vx_throwS (cls := "java/lang/IllegalArgumentException") (text := "a number is out of range") (names := ["java/lang/RuntimeException", "java/lang/Exception"]) (ik := 85) (is := 87) (ic := 89) (sa := sa_9) hx hb hlT hown (by decide +kernel) fz_nm_IllegalArgument (hq_9 _ List.mem_cons_self) (hq_9 _ (List.mem_cons_of_mem _ List.mem_cons_self)) hst_9 (fz_wf (ik := 0) hq_9 (fun _ h9 => List.mem_cons_of_mem _ (List.mem_cons_of_mem _ h9)) fz_ng_IllegalArgument (hAm.1.2.1 _ fz_x_IllegalArgument) hAm.1) fz_ot_IllegalArgument hAm.2.1 hAm.2.2.1 hS (hl.1.trans hml.symm) dX7_drawJoint_26 dX7_drawJoint_29 dX7_drawJoint_30 dX7_drawJoint_32 dX7_drawJoint_35 (fun x h9 => (htab x h9).elim) (by decide) (by decide) (Nat.le_of_ble_eq_true rfl) (Nat.le_of_ble_eq_true rfl) hlocks (fun t _ h1_9 h2_9 => ⟨(), trivial, ⟨rfl, (q_c_X7_drawJoint_3 hp_3)⟩, fz_xF hS h1_9 h2_9⟩) hS.2.2 (Nat.le_of_ble_eq_true rfl) (Nat.le_of_ble_eq_true rfl)
def v_c_X7_moveJoint : List Cond := .code yX7_moveJoint cX7_moveJoint 6 (some .int) :: ([.fieldLink RX7 10 "VoussoirYard" "drawing" "LVoussoirYard$Drawing;"] ++ (wsX70 ++ (wsV RX7 119 RX1 yX1_jointAt v_c_X1_jointAt ++ (fz_w_IndexOutOfBounds))))
set_option maxRecDepth 20000 in
theorem i_c_X7_moveJoint : ∀ w ∈ v_c_X7_moveJoint, w ∈ lw_tbl := List.forall_mem_cons.mpr ⟨List.mem_of_getElem? (i := 604) (by decide +kernel), List.forall_mem_append.mpr ⟨List.forall_mem_cons.mpr ⟨List.mem_of_getElem? (i := 219) (by decide +kernel), fun _ h => absurd h List.not_mem_nil⟩, List.forall_mem_append.mpr ⟨inX7, List.forall_mem_append.mpr ⟨(by unfold wsV; exact List.forall_mem_append.mpr ⟨List.forall_mem_cons.mpr ⟨List.mem_of_getElem? (i := 605) (by decide +kernel), List.forall_mem_cons.mpr ⟨List.mem_of_getElem? (i := 346) (by decide +kernel), List.forall_mem_cons.mpr ⟨List.mem_of_getElem? (i := 347) (by decide +kernel), List.forall_mem_cons.mpr ⟨List.mem_of_getElem? (i := 50) (by decide +kernel), fun _ h => absurd h List.not_mem_nil⟩⟩⟩⟩, i_c_X1_jointAt⟩), fz_wi_IndexOutOfBounds⟩⟩⟩⟩
set_option maxHeartbeats 4000000 in
set_option maxRecDepth 100000 in
theorem c_X7_moveJoint (l : Launch) (dC : Nat → ClassId) (dI : Nat → Nat → Nat) (e0 : Nat) (hlT : l.stackTraces = false) (h0 : Nat) (p0 p1 p2 p3 p4 : Int32) (hd hse hki hma hst hsp hlp htl hj hpr hqd : Nat) (sz : Nat) : vx_Met l yX7_moveJoint v_c_X7_moveJoint ({ frames := 7, cells := 1, slots := 6, locals := 100 }) (fz_P (dC, dI) e0 [(h0, .inr (12, [.ref hd, .ref hse, .ref hki, .ref hma, .ref hst, .ref hsp, .ref hlp, .ref htl, .int 0, .int 0, .int 0, .int 0, .int 0, .int 0, .int 0, .long ((0 : Int32).toInt64)])), (hd, .inr (6, [.ref hj, .ref hpr, .ref hqd, .int 0, .int 0, .int 1]))] [] sz (fun q : Nat => sz ≤ q) [.ref h0, .int p0, .int p1, .int p2, .int p3, .int p4]) (va_Qi (fun (r : Int32) (u : Unit) => False) (fun (u : Unit) (t : State) => True) (fun q : Nat => sz ≤ q)) (vx_X (fun _ : Unit => True) (fun (E : String) (_ : Unit) (_ : State) => (E = "java/lang/IndexOutOfBoundsException")) (fun q : Nat => sz ≤ q)) 1 6 (fun q : Nat => sz ≤ q) := by
  refine vx_ofW (cc := cX7_moveJoint) (maxL := 6) (ret := (some .int)) (by decide) rfl ?_
  intro p e s m args below meth c s₁ B hml htab hv
  obtain ⟨rfl, hsz, hP, hK, hD0, hAm⟩ := hv
  have hx := B.exec
  have hb := B.bytes
  have hr := B.returns
  have hts := atoms_spec (ws := v_c_X7_moveJoint) B.pre
  have hown : s.vm.findClass RX7 = some m.cls := findClass_of_methodNamed B.named
  have hlocks := B.notSynchronized
  subst hsz
  have hD := hD0
  generalize hAe : (fun q : Nat => s.heap.size ≤ q) = A at hAm ⊢
  have hA : ∀ q : Nat, s.heap.size ≤ q → A q := fun q h => by rw [← hAe]; exact h
  have hS : va_S A s.heap s.heap [] := va_S.rf
  have hP : va_P (dC, dI) vwCl [(h0, .inr (12, [.ref hd, .ref hse, .ref hki, .ref hma, .ref hst, .ref hsp, .ref hlp, .ref htl, .int 0, .int 0, .int 0, .int 0, .int 0, .int 0, .int 0, .long ((0 : Int32).toInt64)])), (hd, .inr (6, [.ref hj, .ref hpr, .ref hqd, .int 0, .int 0, .int 1]))] s.heap := hP
  have hl := lv_entry ([.ref h0, .int p0, .int p1, .int p2, .int p3, .int p4]) (n := 6) (Nat.le_of_ble_eq_true rfl)
  rw [lg_entry_eq]
  generalize (lg_sl ([.ref h0, .int p0, .int p1, .int p2, .int p3, .int p4]) ++ List.replicate (6 - (lg_sl ([.ref h0, .int p0, .int p1, .int p2, .int p3, .int p4])).length) Slot.unset).toArray = ls at hl ⊢
  have hl : lv_has ls 6 [(0, .ref h0), (1, .int p0), (2, .int p1), (3, .int p2), (4, .int p3), (5, .int p4)] := hl
  refine lv_aload_n hx hb dX7_moveJoint_0 rfl (lv_at hl 0 rfl) ?_
  refine va_get (D := (dC, dI)) (ci := 12) (v := .ref hd) (C := RX7) (T := TX7) (N := 16) hx hb hts (fun _ h9 => List.mem_cons_of_mem _ (List.mem_append_right _ (List.mem_append_left _ h9))) hown hK hP 0 rfl rfl 0 (by decide) (hts _ (List.mem_cons_of_mem _ (List.mem_append_left _ (List.mem_of_getElem? (i := 0) rfl)))) (fun _ h9 => h9) rfl dX7_moveJoint_1 ?_
  refine lv_iload_n hx hb dX7_moveJoint_4 rfl (lv_at hl 1 rfl) ?_
  have hPc := hP.sub (ws' := [(hd, .inr (6, [.ref hj, .ref hpr, .ref hqd, .int 0, .int 0, .int 1]))]) [1] rfl
  have hDc := hD.sub (ws' := [(hd, .inr (6, [.ref hj, .ref hpr, .ref hqd, .int 0, .int 0, .int 1]))]) [1] (by decide) rfl
  have hKc := hK.sub (tys' := []) [] rfl
  have hFc : ∀ q : Nat, s.heap.size ≤ q → A q := fun q h => hA q (Nat.le_trans hS.1 h)
  refine va_callq (va_runV (As := [.int p0]) (rest := []) ⟨hx, hb, hml, hown, hts⟩ (c_X1_jointAt l dC dI e0 hd p0 hj hpr hqd s.heap.size) (cwV 1 hts (goodIn_sub (fun _ h9 => List.mem_cons_of_mem _ (List.mem_append_right _ (List.mem_append_right _ (List.mem_append_left _ h9)))) (by decide +kernel)) rfl rfl rfl (by decide +kernel) ⟨(Nat.le_of_ble_eq_true rfl), (Nat.le_of_ble_eq_true rfl)⟩) ⟨fz_blind, va_recv hKc hPc (ci := 6) (q0 := 0) rfl rfl, fz_pre hPc hKc hDc hAm hS hFc⟩ rfl rfl hl.1 rfl (lv_room (Nat.le_of_ble_eq_true rfl)) dX7_moveJoint_5 ⟨(Nat.le_of_ble_eq_true rfl), (Nat.le_of_ble_eq_true rfl)⟩) hS (fun q _ h => hFc q h) hFc (fun r u t H1 locs ht hvm hw hB hz1 hk1 hS => ?_)
  obtain rfl := hw
  have hP := fz_keep hP hk1
  generalize H1 = H at hP hS ⊢
  have hP : va_P (dC, dI) vwCl [(h0, .inr (12, [.ref hd, .ref hse, .ref hki, .ref hma, .ref hst, .ref hsp, .ref hlp, .ref htl, .int 0, .int 0, .int 0, .int 0, .int 0, .int 0, .int 0, .long ((0 : Int32).toInt64)])), (hd, .inr (6, [.ref hj, .ref hpr, .ref hqd, .int 0, .int 0, .int 1]))] H := hP
  refine W.widen (k := 0) (n := 0) (Nat.le_of_ble_eq_true rfl) (Nat.le_of_ble_eq_true rfl) ?_
  refine lv_ifnonnullN hx hb dX7_moveJoint_8 ?_
  obtain ⟨sa_9, hst_9⟩ := hAm.1.2.2.2.2.2.1 _ fz_s_125
  have hq_9 : ∀ w ∈ fz_w_IndexOutOfBounds, w.before _ s = true := fun w h9 => hts w (List.mem_cons_of_mem _ (List.mem_append_right _ (List.mem_append_right _ (List.mem_append_right _ h9))))
  exact vx_throwS (cls := "java/lang/IndexOutOfBoundsException") (text := "there is no such joint") (names := ["java/lang/RuntimeException", "java/lang/Exception"]) (ik := 123) (is := 125) (ic := 127) (sa := sa_9) hx hb hlT hown (by decide +kernel) fz_nm_IndexOutOfBounds (hq_9 _ List.mem_cons_self) (hq_9 _ (List.mem_cons_of_mem _ List.mem_cons_self)) hst_9 (fz_wf (ik := 0) hq_9 (fun _ h9 => List.mem_cons_of_mem _ (List.mem_cons_of_mem _ h9)) fz_ng_IndexOutOfBounds (hAm.1.2.1 _ fz_x_IndexOutOfBounds) hAm.1) fz_ot_IndexOutOfBounds hAm.2.1 hAm.2.2.1 hS (hl.1.trans hml.symm) dX7_moveJoint_11 dX7_moveJoint_14 dX7_moveJoint_15 dX7_moveJoint_17 dX7_moveJoint_20 (fun x h9 => (htab x h9).elim) (by decide) (by decide) (Nat.le_of_ble_eq_true rfl) (Nat.le_of_ble_eq_true rfl) hlocks (fun t _ h1_9 h2_9 => ⟨(), trivial, rfl, fz_xF hS h1_9 h2_9⟩) hS.2.2 (Nat.le_of_ble_eq_true rfl) (Nat.le_of_ble_eq_true rfl)
def v_c_X7_setDensity : List Cond := .code yX7_setDensity cX7_setDensity 3 (some .int) :: ([.fieldLink RX7 10 "VoussoirYard" "drawing" "LVoussoirYard$Drawing;", .fieldLink RX7 142 "VoussoirYard$Drawing" "density" "I"] ++ (fz_w_IllegalArgument ++ (wsV RX7 102 RX7 yX7_filledPlaces v_c_X7_filledPlaces ++ (wsX70 ++ (wsX10)))))
set_option maxRecDepth 20000 in
theorem i_c_X7_setDensity : ∀ w ∈ v_c_X7_setDensity, w ∈ lw_tbl := List.forall_mem_cons.mpr ⟨List.mem_of_getElem? (i := 631) (by decide +kernel), List.forall_mem_append.mpr ⟨List.forall_mem_cons.mpr ⟨List.mem_of_getElem? (i := 219) (by decide +kernel), List.forall_mem_cons.mpr ⟨List.mem_of_getElem? (i := 157) (by decide +kernel), fun _ h => absurd h List.not_mem_nil⟩⟩, List.forall_mem_append.mpr ⟨fz_wi_IllegalArgument, List.forall_mem_append.mpr ⟨(by unfold wsV; exact List.forall_mem_append.mpr ⟨List.forall_mem_cons.mpr ⟨List.mem_of_getElem? (i := 287) (by decide +kernel), List.forall_mem_cons.mpr ⟨List.mem_of_getElem? (i := 289) (by decide +kernel), List.forall_mem_cons.mpr ⟨List.mem_of_getElem? (i := 1) (by decide +kernel), List.forall_mem_cons.mpr ⟨List.mem_of_getElem? (i := 49) (by decide +kernel), fun _ h => absurd h List.not_mem_nil⟩⟩⟩⟩, i_c_X7_filledPlaces⟩), List.forall_mem_append.mpr ⟨inX7, inX1⟩⟩⟩⟩⟩
theorem q_c_X7_setDensity_0 {p0 : Int32} (c_1 : p0 < (1 : Int32)) : ¬ fz_in p0 1 3 := by
  first | assumption | (simp_all [fz_in, fz_v]; done) | (simp only [fz_in, fz_v] at *; grind)
theorem q_c_X7_setDensity_1 {p0 : Int32} (c_1 : ¬ p0 < (1 : Int32)) (c_2 : p0 ≤ (3 : Int32)) : fz_in p0 1 3 := by
  first | assumption | (simp_all [fz_in, fz_v]; done) | (simp only [fz_in, fz_v] at *; grind)
theorem q_c_X7_setDensity_2 {p0 : Int32} (c_1 : ¬ p0 < (1 : Int32)) (c_2 : ¬ p0 ≤ (3 : Int32)) : ¬ fz_in p0 1 3 := by
  first | assumption | (simp_all [fz_in, fz_v]; done) | (simp only [fz_in, fz_v] at *; grind)
set_option maxHeartbeats 4000000 in
set_option maxRecDepth 100000 in
theorem c_X7_setDensity (l : Launch) (dC : Nat → ClassId) (dI : Nat → Nat → Nat) (e0 : Nat) (hlT : l.stackTraces = false) (h0 : Nat) (p0 : Int32) (hd hse hki hma hst hsp hlp htl hj hpr hqd : Nat) (cI : ClassId) (fsp : Nat → Int32) (sz : Nat) (hspf : ∀ j : Nat, j < 8 → fsp j = -1) : vx_Met l yX7_setDensity v_c_X7_setDensity ({ frames := 7, cells := 1, slots := 6, locals := 100 }) (fz_P (dC, dI) e0 [(h0, .inr (12, [.ref hd, .ref hse, .ref hki, .ref hma, .ref hst, .ref hsp, .ref hlp, .ref htl, .int 0, .int 0, .int 0, .int 0, .int 0, .int 0, .int 0, .long ((0 : Int32).toInt64)])), (hd, .inr (6, [.ref hj, .ref hpr, .ref hqd, .int 0, .int 0, .int 1])), (hsp, .inl (cI, 8, .inl fsp))] [(cI, .int)] sz (va_A [(h0, .inr (12, [.ref hd, .ref hse, .ref hki, .ref hma, .ref hst, .ref hsp, .ref hlp, .ref htl, .int 0, .int 0, .int 0, .int 0, .int 0, .int 0, .int 0, .long ((0 : Int32).toInt64)])), (hd, .inr (6, [.ref hj, .ref hpr, .ref hqd, .int 0, .int 0, .int 1])), (hsp, .inl (cI, 8, .inl fsp))] sz) [.ref h0, .int p0]) (va_Qi (fun (r : Int32) (u : Unit) => r = 1 ∧ fz_in p0 1 3) (fun (u : Unit) (t : State) => True) (va_A [(h0, .inr (12, [.ref hd, .ref hse, .ref hki, .ref hma, .ref hst, .ref hsp, .ref hlp, .ref htl, .int 0, .int 0, .int 0, .int 0, .int 0, .int 0, .int 0, .long ((0 : Int32).toInt64)])), (hd, .inr (6, [.ref hj, .ref hpr, .ref hqd, .int 0, .int 0, .int 1])), (hsp, .inl (cI, 8, .inl fsp))] sz)) (vx_X (fun _ : Unit => True) (fun (E : String) (_ : Unit) (_ : State) => (E = "java/lang/IllegalArgumentException" ∧ ¬ fz_in p0 1 3)) (va_A [(h0, .inr (12, [.ref hd, .ref hse, .ref hki, .ref hma, .ref hst, .ref hsp, .ref hlp, .ref htl, .int 0, .int 0, .int 0, .int 0, .int 0, .int 0, .int 0, .long ((0 : Int32).toInt64)])), (hd, .inr (6, [.ref hj, .ref hpr, .ref hqd, .int 0, .int 0, .int 1])), (hsp, .inl (cI, 8, .inl fsp))] sz)) 1 6 (va_A [(h0, .inr (12, [.ref hd, .ref hse, .ref hki, .ref hma, .ref hst, .ref hsp, .ref hlp, .ref htl, .int 0, .int 0, .int 0, .int 0, .int 0, .int 0, .int 0, .long ((0 : Int32).toInt64)])), (hd, .inr (6, [.ref hj, .ref hpr, .ref hqd, .int 0, .int 0, .int 1])), (hsp, .inl (cI, 8, .inl fsp))] sz) := by
  refine vx_ofW (cc := cX7_setDensity) (maxL := 3) (ret := (some .int)) (by decide) rfl ?_
  intro p e s m args below meth c s₁ B hml htab hv
  obtain ⟨rfl, hsz, hP, hK, hD0, hAm⟩ := hv
  have hx := B.exec
  have hb := B.bytes
  have hr := B.returns
  have hts := atoms_spec (ws := v_c_X7_setDensity) B.pre
  have hown : s.vm.findClass RX7 = some m.cls := findClass_of_methodNamed B.named
  have hlocks := B.notSynchronized
  subst hsz
  have hD := hD0.self (sz := s.heap.size)
  generalize hAe : va_A [(h0, .inr (12, [.ref hd, .ref hse, .ref hki, .ref hma, .ref hst, .ref hsp, .ref hlp, .ref htl, .int 0, .int 0, .int 0, .int 0, .int 0, .int 0, .int 0, .long ((0 : Int32).toInt64)])), (hd, .inr (6, [.ref hj, .ref hpr, .ref hqd, .int 0, .int 0, .int 1])), (hsp, .inl (cI, 8, .inl fsp))] s.heap.size = A at hD hAm ⊢
  have hA : ∀ q : Nat, s.heap.size ≤ q → A q := fun q h => by rw [← hAe]; exact Or.inr h
  have hS : va_S A s.heap s.heap [] := va_S.rf
  have hP : va_P (dC, dI) vwCl [(h0, .inr (12, [.ref hd, .ref hse, .ref hki, .ref hma, .ref hst, .ref hsp, .ref hlp, .ref htl, .int 0, .int 0, .int 0, .int 0, .int 0, .int 0, .int 0, .long ((0 : Int32).toInt64)])), (hd, .inr (6, [.ref hj, .ref hpr, .ref hqd, .int 0, .int 0, .int 1])), (hsp, .inl (cI, 8, .inl fsp))] s.heap := hP
  have hl := lv_entry ([.ref h0, .int p0]) (n := 3) (Nat.le_of_ble_eq_true rfl)
  rw [lg_entry_eq]
  generalize (lg_sl ([.ref h0, .int p0]) ++ List.replicate (3 - (lg_sl ([.ref h0, .int p0])).length) Slot.unset).toArray = ls at hl ⊢
  have hl : lv_has ls 3 [(0, .ref h0), (1, .int p0)] := hl
  refine lv_iload_n hx hb dX7_setDensity_0 rfl (lv_at hl 1 rfl) ?_
  refine lv_iconst (v := 1) hx hb dX7_setDensity_1 (by decide) ?_
  refine lv_icmp_lt (tgt := 10) hx hb dX7_setDensity_2 (by decide) (fun c_1 => ?_) (fun c_1 => ?_)
  · obtain ⟨sa_9, hst_9⟩ := hAm.1.2.2.2.2.2.1 _ fz_s_140
    have hq_9 : ∀ w ∈ fz_w_IllegalArgument, w.before _ s = true := fun w h9 => hts w (List.mem_cons_of_mem _ (List.mem_append_right _ (List.mem_append_left _ h9)))
    exact vx_throwS (cls := "java/lang/IllegalArgumentException") (text := "the density is out of range") (names := ["java/lang/RuntimeException", "java/lang/Exception"]) (ik := 85) (is := 140) (ic := 89) (sa := sa_9) hx hb hlT hown (by decide +kernel) fz_nm_IllegalArgument (hq_9 _ List.mem_cons_self) (hq_9 _ (List.mem_cons_of_mem _ List.mem_cons_self)) hst_9 (fz_wf (ik := 0) hq_9 (fun _ h9 => List.mem_cons_of_mem _ (List.mem_cons_of_mem _ h9)) fz_ng_IllegalArgument (hAm.1.2.1 _ fz_x_IllegalArgument) hAm.1) fz_ot_IllegalArgument hAm.2.1 hAm.2.2.1 hS (hl.1.trans hml.symm) dX7_setDensity_10 dX7_setDensity_13 dX7_setDensity_14 dX7_setDensity_16 dX7_setDensity_19 (fun x h9 => (htab x h9).elim) (by decide) (by decide) (Nat.le_of_ble_eq_true rfl) (Nat.le_of_ble_eq_true rfl) hlocks (fun t _ h1_9 h2_9 => ⟨(), trivial, ⟨rfl, (q_c_X7_setDensity_0 c_1)⟩, fz_xF hS h1_9 h2_9⟩) hS.2.2 (Nat.le_of_ble_eq_true rfl) (Nat.le_of_ble_eq_true rfl)
  · refine lv_iload_n hx hb dX7_setDensity_5 rfl (lv_at hl 1 rfl) ?_
    refine lv_iconst (v := 3) hx hb dX7_setDensity_6 (by decide) ?_
    refine lv_icmp_le (tgt := 20) hx hb dX7_setDensity_7 (by decide) (fun c_2 => ?_) (fun c_2 => ?_)
    · refine lv_aload_n hx hb dX7_setDensity_20 rfl (lv_at hl 0 rfl) ?_
      have hPc := hP.sub (ws' := [(h0, .inr (12, [.ref hd, .ref hse, .ref hki, .ref hma, .ref hst, .ref hsp, .ref hlp, .ref htl, .int 0, .int 0, .int 0, .int 0, .int 0, .int 0, .int 0, .long ((0 : Int32).toInt64)])), (hsp, .inl (cI, 8, .inl fsp))]) [0, 2] rfl
      have hDc := hD.sub (ws' := [(h0, .inr (12, [.ref hd, .ref hse, .ref hki, .ref hma, .ref hst, .ref hsp, .ref hlp, .ref htl, .int 0, .int 0, .int 0, .int 0, .int 0, .int 0, .int 0, .long ((0 : Int32).toInt64)])), (hsp, .inl (cI, 8, .inl fsp))]) [0, 2] (by decide) rfl
      have hKc := hK.sub (tys' := [(cI, .int)]) [0] rfl
      have hFc : ∀ q : Nat, s.heap.size ≤ q → A q := fun q h => hA q (Nat.le_trans hS.1 h)
      refine va_calli (va_runV (As := []) (rest := []) ⟨hx, hb, hml, hown, hts⟩ (c_X7_filledPlaces l dC dI e0 h0 hd hse hki hma hst hsp hlp htl cI fsp s.heap.size hspf) (cwV 0 hts (goodIn_sub (fun _ h9 => List.mem_cons_of_mem _ (List.mem_append_right _ (List.mem_append_right _ (List.mem_append_left _ h9)))) (by decide +kernel)) rfl rfl rfl (by decide +kernel) ⟨(Nat.le_of_ble_eq_true rfl), (Nat.le_of_ble_eq_true rfl)⟩) ⟨fz_blind, va_recv hKc hPc (ci := 12) (q0 := 0) rfl rfl, fz_pre hPc hKc hDc hAm hS hFc⟩ rfl rfl hl.1 rfl (lv_room (Nat.le_of_ble_eq_true rfl)) dX7_setDensity_21 ⟨(Nat.le_of_ble_eq_true rfl), (Nat.le_of_ble_eq_true rfl)⟩) hS (fun q _ h => hFc q h) hFc (fun r u t H1 locs ht hvm hw hB hz1 hk1 hS => ?_)
      obtain rfl := hw
      have hP := fz_keep hP hk1
      generalize H1 = H at hP hS ⊢
      have hP : va_P (dC, dI) vwCl [(h0, .inr (12, [.ref hd, .ref hse, .ref hki, .ref hma, .ref hst, .ref hsp, .ref hlp, .ref htl, .int 0, .int 0, .int 0, .int 0, .int 0, .int 0, .int 0, .long ((0 : Int32).toInt64)])), (hd, .inr (6, [.ref hj, .ref hpr, .ref hqd, .int 0, .int 0, .int 1])), (hsp, .inl (cI, 8, .inl fsp))] H := hP
      have hD : va_D A [(h0, .inr (12, [.ref hd, .ref hse, .ref hki, .ref hma, .ref hst, .ref hsp, .ref hlp, .ref htl, .int 0, .int 0, .int 0, .int 0, .int 0, .int 0, .int 0, .long ((0 : Int32).toInt64)])), (hd, .inr (6, [.ref hj, .ref hpr, .ref hqd, .int 0, .int 0, .int 1])), (hsp, .inl (cI, 8, .inl fsp))] := hD
      refine W.widen (k := 0) (n := 0) (Nat.le_of_ble_eq_true rfl) (Nat.le_of_ble_eq_true rfl) ?_
      refine lv_if_le (tgt := 37) hx hb dX7_setDensity_24 (by decide) (fun _ => ?_) (fun c_9 => absurd (by decide) c_9)
      refine lv_aload_n hx hb dX7_setDensity_37 rfl (lv_at hl 0 rfl) ?_
      refine va_get (D := (dC, dI)) (ci := 12) (v := .ref hd) (C := RX7) (T := TX7) (N := 16) hx hb hts (fun _ h9 => List.mem_cons_of_mem _ (List.mem_append_right _ (List.mem_append_right _ (List.mem_append_right _ (List.mem_append_left _ h9))))) hown hK hP 0 rfl rfl 0 (by decide) (hts _ (List.mem_cons_of_mem _ (List.mem_append_left _ (List.mem_of_getElem? (i := 0) rfl)))) (fun _ h9 => h9) rfl dX7_setDensity_38 ?_
      refine va_get (D := (dC, dI)) (ci := 6) (v := .int 1) (C := RX1) (T := TX1) (N := 6) hx hb hts (fun _ h9 => List.mem_cons_of_mem _ (List.mem_append_right _ (List.mem_append_right _ (List.mem_append_right _ (List.mem_append_right _ h9))))) hown hK hP 1 rfl rfl 5 (by decide) (hts _ (List.mem_cons_of_mem _ (List.mem_append_left _ (List.mem_of_getElem? (i := 1) rfl)))) (fun _ h9 => h9) rfl dX7_setDensity_41 ?_
      refine lv_istore_n (lv' := [(2, .int 1), (0, .ref h0), (1, .int p0)]) hx hb dX7_setDensity_44 rfl hl (by decide) rfl (fun ls hl => ?_)
      refine lv_aload_n hx hb dX7_setDensity_45 rfl (lv_at hl 1 rfl) ?_
      refine va_get (D := (dC, dI)) (ci := 12) (v := .ref hd) (C := RX7) (T := TX7) (N := 16) hx hb hts (fun _ h9 => List.mem_cons_of_mem _ (List.mem_append_right _ (List.mem_append_right _ (List.mem_append_right _ (List.mem_append_left _ h9))))) hown hK hP 0 rfl rfl 0 (by decide) (hts _ (List.mem_cons_of_mem _ (List.mem_append_left _ (List.mem_of_getElem? (i := 0) rfl)))) (fun _ h9 => h9) rfl dX7_setDensity_46 ?_
      refine lv_iload_n hx hb dX7_setDensity_49 rfl (lv_at hl 2 rfl) ?_
      refine va_put (D := (dC, dI)) (ci := 6) (v := .int p0) (ty := .int) (C := RX1) (T := TX1) (N := 6) hx hb hts (fun _ h9 => List.mem_cons_of_mem _ (List.mem_append_right _ (List.mem_append_right _ (List.mem_append_right _ (List.mem_append_right _ h9))))) tyX1 tyX1_ok nmX1 hown hK hP hD hS 1 rfl rfl 5 (by decide) (hts _ (List.mem_cons_of_mem _ (List.mem_append_left _ (List.mem_of_getElem? (i := 1) rfl)))) (fun _ h9 => h9) rfl (by decide +kernel) rfl rfl (Nat.le_of_ble_eq_true rfl) dX7_setDensity_50 (fun H locs hP hD hS => ?_)
      have hP : va_P (dC, dI) vwCl [(h0, .inr (12, [.ref hd, .ref hse, .ref hki, .ref hma, .ref hst, .ref hsp, .ref hlp, .ref htl, .int 0, .int 0, .int 0, .int 0, .int 0, .int 0, .int 0, .long ((0 : Int32).toInt64)])), (hd, .inr (6, [.ref hj, .ref hpr, .ref hqd, .int 0, .int 0, .int p0])), (hsp, .inl (cI, 8, .inl fsp))] H := hP
      have hD : va_D A [(h0, .inr (12, [.ref hd, .ref hse, .ref hki, .ref hma, .ref hst, .ref hsp, .ref hlp, .ref htl, .int 0, .int 0, .int 0, .int 0, .int 0, .int 0, .int 0, .long ((0 : Int32).toInt64)])), (hd, .inr (6, [.ref hj, .ref hpr, .ref hqd, .int 0, .int 0, .int p0])), (hsp, .inl (cI, 8, .inl fsp))] := hD
      refine lv_iload_n hx hb dX7_setDensity_53 rfl (lv_at hl 0 rfl) ?_
      refine W.widen (k := 1) (n := 6) (Nat.le_of_ble_eq_true rfl) (Nat.le_of_ble_eq_true rfl) ?_
      refine vx_ret ?_
      exact W.iret (v := 1) hx hb hr (fun t ht hW => ⟨⟨1, (), rfl, ⟨rfl, (q_c_X7_setDensity_1 c_1 c_2)⟩, trivial⟩, hS.F ht⟩) hS.2.2 dX7_setDensity_54
    · obtain ⟨sa_9, hst_9⟩ := hAm.1.2.2.2.2.2.1 _ fz_s_140
      have hq_9 : ∀ w ∈ fz_w_IllegalArgument, w.before _ s = true := fun w h9 => hts w (List.mem_cons_of_mem _ (List.mem_append_right _ (List.mem_append_left _ h9)))
      exact vx_throwS (cls := "java/lang/IllegalArgumentException") (text := "the density is out of range") (names := ["java/lang/RuntimeException", "java/lang/Exception"]) (ik := 85) (is := 140) (ic := 89) (sa := sa_9) hx hb hlT hown (by decide +kernel) fz_nm_IllegalArgument (hq_9 _ List.mem_cons_self) (hq_9 _ (List.mem_cons_of_mem _ List.mem_cons_self)) hst_9 (fz_wf (ik := 0) hq_9 (fun _ h9 => List.mem_cons_of_mem _ (List.mem_cons_of_mem _ h9)) fz_ng_IllegalArgument (hAm.1.2.1 _ fz_x_IllegalArgument) hAm.1) fz_ot_IllegalArgument hAm.2.1 hAm.2.2.1 hS (hl.1.trans hml.symm) dX7_setDensity_10 dX7_setDensity_13 dX7_setDensity_14 dX7_setDensity_16 dX7_setDensity_19 (fun x h9 => (htab x h9).elim) (by decide) (by decide) (Nat.le_of_ble_eq_true rfl) (Nat.le_of_ble_eq_true rfl) hlocks (fun t _ h1_9 h2_9 => ⟨(), trivial, ⟨rfl, (q_c_X7_setDensity_2 c_1 c_2)⟩, fz_xF hS h1_9 h2_9⟩) hS.2.2 (Nat.le_of_ble_eq_true rfl) (Nat.le_of_ble_eq_true rfl)
def v_c_X7_places : List Cond := .code yX7_places cX7_places 1 (some .int) :: ([.fieldLink RX7 10 "VoussoirYard" "drawing" "LVoussoirYard$Drawing;"] ++ (wsX70 ++ (wsV RX7 145 RX1 yX1_placeCount v_c_X1_placeCount)))
set_option maxRecDepth 20000 in
theorem i_c_X7_places : ∀ w ∈ v_c_X7_places, w ∈ lw_tbl := List.forall_mem_cons.mpr ⟨List.mem_of_getElem? (i := 271) (by decide +kernel), List.forall_mem_append.mpr ⟨List.forall_mem_cons.mpr ⟨List.mem_of_getElem? (i := 219) (by decide +kernel), fun _ h => absurd h List.not_mem_nil⟩, List.forall_mem_append.mpr ⟨inX7, (by unfold wsV; exact List.forall_mem_append.mpr ⟨List.forall_mem_cons.mpr ⟨List.mem_of_getElem? (i := 272) (by decide +kernel), List.forall_mem_cons.mpr ⟨List.mem_of_getElem? (i := 273) (by decide +kernel), List.forall_mem_cons.mpr ⟨List.mem_of_getElem? (i := 274) (by decide +kernel), List.forall_mem_cons.mpr ⟨List.mem_of_getElem? (i := 50) (by decide +kernel), fun _ h => absurd h List.not_mem_nil⟩⟩⟩⟩, i_c_X1_placeCount⟩)⟩⟩⟩
set_option maxHeartbeats 4000000 in
set_option maxRecDepth 100000 in
theorem c_X7_places (l : Launch) (dC : Nat → ClassId) (dI : Nat → Nat → Nat) (e0 : Nat) (h0 hd hse hki hma hst hsp hlp htl hj hpr hqd : Nat) (sz : Nat) : Met l yX7_places v_c_X7_places ({ frames := 2, cells := 0, slots := 0, locals := 50 }) (fz_P (dC, dI) e0 [(h0, .inr (12, [.ref hd, .ref hse, .ref hki, .ref hma, .ref hst, .ref hsp, .ref hlp, .ref htl, .int 0, .int 0, .int 0, .int 0, .int 0, .int 0, .int 0, .long ((0 : Int32).toInt64)])), (hd, .inr (6, [.ref hj, .ref hpr, .ref hqd, .int 0, .int 0, .int 1]))] [] sz (fun q : Nat => sz ≤ q) [.ref h0]) (va_Qi (fun (r : Int32) (u : Unit) => r = 0) (fun (u : Unit) (t : State) => True) (fun q : Nat => sz ≤ q)) 0 0 (fun q : Nat => sz ≤ q) := by
  refine Met.ofW (cc := cX7_places) (maxL := 1) (ret := (some .int)) (by decide) rfl ?_
  intro p e s m args below meth c s₁ B hml hv
  obtain ⟨rfl, hsz, hP, hK, hD0, hAm⟩ := hv
  have hx := B.exec
  have hb := B.bytes
  have hr := B.returns
  have hts := atoms_spec (ws := v_c_X7_places) B.pre
  have hown : s.vm.findClass RX7 = some m.cls := findClass_of_methodNamed B.named
  have hlocks := B.notSynchronized
  subst hsz
  have hD := hD0
  generalize hAe : (fun q : Nat => s.heap.size ≤ q) = A at hAm ⊢
  have hA : ∀ q : Nat, s.heap.size ≤ q → A q := fun q h => by rw [← hAe]; exact h
  have hS : va_S A s.heap s.heap [] := va_S.rf
  have hP : va_P (dC, dI) vwCl [(h0, .inr (12, [.ref hd, .ref hse, .ref hki, .ref hma, .ref hst, .ref hsp, .ref hlp, .ref htl, .int 0, .int 0, .int 0, .int 0, .int 0, .int 0, .int 0, .long ((0 : Int32).toInt64)])), (hd, .inr (6, [.ref hj, .ref hpr, .ref hqd, .int 0, .int 0, .int 1]))] s.heap := hP
  have hl := lv_entry ([.ref h0]) (n := 1) (Nat.le_of_ble_eq_true rfl)
  rw [lg_entry_eq]
  generalize (lg_sl ([.ref h0]) ++ List.replicate (1 - (lg_sl ([.ref h0])).length) Slot.unset).toArray = ls at hl ⊢
  have hl : lv_has ls 1 [(0, .ref h0)] := hl
  refine lv_aload_n hx hb dX7_places_0 rfl (lv_at hl 0 rfl) ?_
  refine va_get (D := (dC, dI)) (ci := 12) (v := .ref hd) (C := RX7) (T := TX7) (N := 16) hx hb hts (fun _ h9 => List.mem_cons_of_mem _ (List.mem_append_right _ (List.mem_append_left _ h9))) hown hK hP 0 rfl rfl 0 (by decide) (hts _ (List.mem_cons_of_mem _ (List.mem_append_left _ (List.mem_of_getElem? (i := 0) rfl)))) (fun _ h9 => h9) rfl dX7_places_1 ?_
  have hPc := hP.sub (ws' := [(hd, .inr (6, [.ref hj, .ref hpr, .ref hqd, .int 0, .int 0, .int 1]))]) [1] rfl
  have hDc := hD.sub (ws' := [(hd, .inr (6, [.ref hj, .ref hpr, .ref hqd, .int 0, .int 0, .int 1]))]) [1] (by decide) rfl
  have hKc := hK.sub (tys' := []) [] rfl
  have hFc : ∀ q : Nat, s.heap.size ≤ q → A q := fun q h => hA q (Nat.le_trans hS.1 h)
  refine va_calli (va_runV (As := []) (rest := []) ⟨hx, hb, hml, hown, hts⟩ (c_X1_placeCount l dC dI e0 hd hj hpr hqd s.heap.size) (cwV 0 hts (goodIn_sub (fun _ h9 => List.mem_cons_of_mem _ (List.mem_append_right _ (List.mem_append_right _ h9))) (by decide +kernel)) rfl rfl rfl (by decide +kernel) ⟨(Nat.le_of_ble_eq_true rfl), (Nat.le_of_ble_eq_true rfl)⟩) ⟨fz_blind, va_recv hKc hPc (ci := 6) (q0 := 0) rfl rfl, fz_pre hPc hKc hDc hAm hS hFc⟩ rfl rfl hl.1 rfl (lv_room (Nat.le_of_ble_eq_true rfl)) dX7_places_4 ⟨(Nat.le_of_ble_eq_true rfl), (Nat.le_of_ble_eq_true rfl)⟩) hS (fun q _ h => hFc q h) hFc (fun r u t H1 locs ht hvm hw hB hz1 hk1 hS => ?_)
  obtain rfl := hw
  have hP := fz_keep hP hk1
  generalize H1 = H at hP hS ⊢
  have hP : va_P (dC, dI) vwCl [(h0, .inr (12, [.ref hd, .ref hse, .ref hki, .ref hma, .ref hst, .ref hsp, .ref hlp, .ref htl, .int 0, .int 0, .int 0, .int 0, .int 0, .int 0, .int 0, .long ((0 : Int32).toInt64)])), (hd, .inr (6, [.ref hj, .ref hpr, .ref hqd, .int 0, .int 0, .int 1]))] H := hP
  refine W.widen (k := 0) (n := 0) (Nat.le_of_ble_eq_true rfl) (Nat.le_of_ble_eq_true rfl) ?_
  refine W.widen (k := 0) (n := 0) (Nat.le_of_ble_eq_true rfl) (Nat.le_of_ble_eq_true rfl) ?_
  exact W.iret (v := 0) hx hb hr (fun t ht hW => ⟨⟨0, (), rfl, rfl, trivial⟩, hS.F ht⟩) hS.2.2 dX7_places_7
def v_c_X7_area : List Cond := .code yX7_area cX7_area 2 (some .int) :: ([.fieldLink RX7 10 "VoussoirYard" "drawing" "LVoussoirYard$Drawing;"] ++ (wsX70 ++ (wsV RX7 148 RX1 yX1_hasPlace v_c_X1_hasPlace ++ (fz_w_IndexOutOfBounds))))
set_option maxRecDepth 20000 in
theorem i_c_X7_area : ∀ w ∈ v_c_X7_area, w ∈ lw_tbl := List.forall_mem_cons.mpr ⟨List.mem_of_getElem? (i := 639) (by decide +kernel), List.forall_mem_append.mpr ⟨List.forall_mem_cons.mpr ⟨List.mem_of_getElem? (i := 219) (by decide +kernel), fun _ h => absurd h List.not_mem_nil⟩, List.forall_mem_append.mpr ⟨inX7, List.forall_mem_append.mpr ⟨(by unfold wsV; exact List.forall_mem_append.mpr ⟨List.forall_mem_cons.mpr ⟨List.mem_of_getElem? (i := 640) (by decide +kernel), List.forall_mem_cons.mpr ⟨List.mem_of_getElem? (i := 641) (by decide +kernel), List.forall_mem_cons.mpr ⟨List.mem_of_getElem? (i := 642) (by decide +kernel), List.forall_mem_cons.mpr ⟨List.mem_of_getElem? (i := 50) (by decide +kernel), fun _ h => absurd h List.not_mem_nil⟩⟩⟩⟩, i_c_X1_hasPlace⟩), fz_wi_IndexOutOfBounds⟩⟩⟩⟩
set_option maxHeartbeats 4000000 in
set_option maxRecDepth 100000 in
theorem c_X7_area (l : Launch) (dC : Nat → ClassId) (dI : Nat → Nat → Nat) (e0 : Nat) (hlT : l.stackTraces = false) (h0 : Nat) (p0 : Int32) (hd hse hki hma hst hsp hlp htl hj hpr hqd : Nat) (sz : Nat) : vx_Met l yX7_area v_c_X7_area ({ frames := 7, cells := 1, slots := 6, locals := 100 }) (fz_P (dC, dI) e0 [(h0, .inr (12, [.ref hd, .ref hse, .ref hki, .ref hma, .ref hst, .ref hsp, .ref hlp, .ref htl, .int 0, .int 0, .int 0, .int 0, .int 0, .int 0, .int 0, .long ((0 : Int32).toInt64)])), (hd, .inr (6, [.ref hj, .ref hpr, .ref hqd, .int 0, .int 0, .int 1]))] [] sz (fun q : Nat => sz ≤ q) [.ref h0, .int p0]) (va_Qi (fun (r : Int32) (u : Unit) => False) (fun (u : Unit) (t : State) => True) (fun q : Nat => sz ≤ q)) (vx_X (fun _ : Unit => True) (fun (E : String) (_ : Unit) (_ : State) => (E = "java/lang/IndexOutOfBoundsException")) (fun q : Nat => sz ≤ q)) 1 6 (fun q : Nat => sz ≤ q) := by
  refine vx_ofW (cc := cX7_area) (maxL := 2) (ret := (some .int)) (by decide) rfl ?_
  intro p e s m args below meth c s₁ B hml htab hv
  obtain ⟨rfl, hsz, hP, hK, hD0, hAm⟩ := hv
  have hx := B.exec
  have hb := B.bytes
  have hr := B.returns
  have hts := atoms_spec (ws := v_c_X7_area) B.pre
  have hown : s.vm.findClass RX7 = some m.cls := findClass_of_methodNamed B.named
  have hlocks := B.notSynchronized
  subst hsz
  have hD := hD0
  generalize hAe : (fun q : Nat => s.heap.size ≤ q) = A at hAm ⊢
  have hA : ∀ q : Nat, s.heap.size ≤ q → A q := fun q h => by rw [← hAe]; exact h
  have hS : va_S A s.heap s.heap [] := va_S.rf
  have hP : va_P (dC, dI) vwCl [(h0, .inr (12, [.ref hd, .ref hse, .ref hki, .ref hma, .ref hst, .ref hsp, .ref hlp, .ref htl, .int 0, .int 0, .int 0, .int 0, .int 0, .int 0, .int 0, .long ((0 : Int32).toInt64)])), (hd, .inr (6, [.ref hj, .ref hpr, .ref hqd, .int 0, .int 0, .int 1]))] s.heap := hP
  have hl := lv_entry ([.ref h0, .int p0]) (n := 2) (Nat.le_of_ble_eq_true rfl)
  rw [lg_entry_eq]
  generalize (lg_sl ([.ref h0, .int p0]) ++ List.replicate (2 - (lg_sl ([.ref h0, .int p0])).length) Slot.unset).toArray = ls at hl ⊢
  have hl : lv_has ls 2 [(0, .ref h0), (1, .int p0)] := hl
  refine lv_aload_n hx hb dX7_area_0 rfl (lv_at hl 0 rfl) ?_
  refine va_get (D := (dC, dI)) (ci := 12) (v := .ref hd) (C := RX7) (T := TX7) (N := 16) hx hb hts (fun _ h9 => List.mem_cons_of_mem _ (List.mem_append_right _ (List.mem_append_left _ h9))) hown hK hP 0 rfl rfl 0 (by decide) (hts _ (List.mem_cons_of_mem _ (List.mem_append_left _ (List.mem_of_getElem? (i := 0) rfl)))) (fun _ h9 => h9) rfl dX7_area_1 ?_
  refine lv_iload_n hx hb dX7_area_4 rfl (lv_at hl 1 rfl) ?_
  have hPc := hP.sub (ws' := [(hd, .inr (6, [.ref hj, .ref hpr, .ref hqd, .int 0, .int 0, .int 1]))]) [1] rfl
  have hDc := hD.sub (ws' := [(hd, .inr (6, [.ref hj, .ref hpr, .ref hqd, .int 0, .int 0, .int 1]))]) [1] (by decide) rfl
  have hKc := hK.sub (tys' := []) [] rfl
  have hFc : ∀ q : Nat, s.heap.size ≤ q → A q := fun q h => hA q (Nat.le_trans hS.1 h)
  refine va_calli (va_runV (As := [.int p0]) (rest := []) ⟨hx, hb, hml, hown, hts⟩ (c_X1_hasPlace l dC dI e0 hd p0 hj hpr hqd s.heap.size) (cwV 1 hts (goodIn_sub (fun _ h9 => List.mem_cons_of_mem _ (List.mem_append_right _ (List.mem_append_right _ (List.mem_append_left _ h9)))) (by decide +kernel)) rfl rfl rfl (by decide +kernel) ⟨(Nat.le_of_ble_eq_true rfl), (Nat.le_of_ble_eq_true rfl)⟩) ⟨fz_blind, va_recv hKc hPc (ci := 6) (q0 := 0) rfl rfl, fz_pre hPc hKc hDc hAm hS hFc⟩ rfl rfl hl.1 rfl (lv_room (Nat.le_of_ble_eq_true rfl)) dX7_area_5 ⟨(Nat.le_of_ble_eq_true rfl), (Nat.le_of_ble_eq_true rfl)⟩) hS (fun q _ h => hFc q h) hFc (fun r u t H1 locs ht hvm hw hB hz1 hk1 hS => ?_)
  obtain rfl := hw
  have hP := fz_keep hP hk1
  generalize H1 = H at hP hS ⊢
  have hP : va_P (dC, dI) vwCl [(h0, .inr (12, [.ref hd, .ref hse, .ref hki, .ref hma, .ref hst, .ref hsp, .ref hlp, .ref htl, .int 0, .int 0, .int 0, .int 0, .int 0, .int 0, .int 0, .long ((0 : Int32).toInt64)])), (hd, .inr (6, [.ref hj, .ref hpr, .ref hqd, .int 0, .int 0, .int 1]))] H := hP
  refine W.widen (k := 0) (n := 0) (Nat.le_of_ble_eq_true rfl) (Nat.le_of_ble_eq_true rfl) ?_
  refine lv_if_ne (tgt := 21) hx hb dX7_area_8 (by decide) (fun c_9 => absurd (by decide) c_9) (fun _ => ?_)
  obtain ⟨sa_9, hst_9⟩ := hAm.1.2.2.2.2.2.1 _ fz_s_151
  have hq_9 : ∀ w ∈ fz_w_IndexOutOfBounds, w.before _ s = true := fun w h9 => hts w (List.mem_cons_of_mem _ (List.mem_append_right _ (List.mem_append_right _ (List.mem_append_right _ h9))))
  exact vx_throwS (cls := "java/lang/IndexOutOfBoundsException") (text := "there is no such place") (names := ["java/lang/RuntimeException", "java/lang/Exception"]) (ik := 123) (is := 151) (ic := 127) (sa := sa_9) hx hb hlT hown (by decide +kernel) fz_nm_IndexOutOfBounds (hq_9 _ List.mem_cons_self) (hq_9 _ (List.mem_cons_of_mem _ List.mem_cons_self)) hst_9 (fz_wf (ik := 0) hq_9 (fun _ h9 => List.mem_cons_of_mem _ (List.mem_cons_of_mem _ h9)) fz_ng_IndexOutOfBounds (hAm.1.2.1 _ fz_x_IndexOutOfBounds) hAm.1) fz_ot_IndexOutOfBounds hAm.2.1 hAm.2.2.1 hS (hl.1.trans hml.symm) dX7_area_11 dX7_area_14 dX7_area_15 dX7_area_17 dX7_area_20 (fun x h9 => (htab x h9).elim) (by decide) (by decide) (Nat.le_of_ble_eq_true rfl) (Nat.le_of_ble_eq_true rfl) hlocks (fun t _ h1_9 h2_9 => ⟨(), trivial, rfl, fz_xF hS h1_9 h2_9⟩) hS.2.2 (Nat.le_of_ble_eq_true rfl) (Nat.le_of_ble_eq_true rfl)
def v_c_X7_weight : List Cond := .code yX7_weight cX7_weight 2 (some .int) :: ([.fieldLink RX7 10 "VoussoirYard" "drawing" "LVoussoirYard$Drawing;"] ++ (wsX70 ++ (wsV RX7 148 RX1 yX1_hasPlace v_c_X1_hasPlace ++ (fz_w_IndexOutOfBounds))))
set_option maxRecDepth 20000 in
theorem i_c_X7_weight : ∀ w ∈ v_c_X7_weight, w ∈ lw_tbl := List.forall_mem_cons.mpr ⟨List.mem_of_getElem? (i := 652) (by decide +kernel), List.forall_mem_append.mpr ⟨List.forall_mem_cons.mpr ⟨List.mem_of_getElem? (i := 219) (by decide +kernel), fun _ h => absurd h List.not_mem_nil⟩, List.forall_mem_append.mpr ⟨inX7, List.forall_mem_append.mpr ⟨(by unfold wsV; exact List.forall_mem_append.mpr ⟨List.forall_mem_cons.mpr ⟨List.mem_of_getElem? (i := 640) (by decide +kernel), List.forall_mem_cons.mpr ⟨List.mem_of_getElem? (i := 641) (by decide +kernel), List.forall_mem_cons.mpr ⟨List.mem_of_getElem? (i := 642) (by decide +kernel), List.forall_mem_cons.mpr ⟨List.mem_of_getElem? (i := 50) (by decide +kernel), fun _ h => absurd h List.not_mem_nil⟩⟩⟩⟩, i_c_X1_hasPlace⟩), fz_wi_IndexOutOfBounds⟩⟩⟩⟩
set_option maxHeartbeats 4000000 in
set_option maxRecDepth 100000 in
theorem c_X7_weight (l : Launch) (dC : Nat → ClassId) (dI : Nat → Nat → Nat) (e0 : Nat) (hlT : l.stackTraces = false) (h0 : Nat) (p0 : Int32) (hd hse hki hma hst hsp hlp htl hj hpr hqd : Nat) (sz : Nat) : vx_Met l yX7_weight v_c_X7_weight ({ frames := 7, cells := 1, slots := 6, locals := 100 }) (fz_P (dC, dI) e0 [(h0, .inr (12, [.ref hd, .ref hse, .ref hki, .ref hma, .ref hst, .ref hsp, .ref hlp, .ref htl, .int 0, .int 0, .int 0, .int 0, .int 0, .int 0, .int 0, .long ((0 : Int32).toInt64)])), (hd, .inr (6, [.ref hj, .ref hpr, .ref hqd, .int 0, .int 0, .int 1]))] [] sz (fun q : Nat => sz ≤ q) [.ref h0, .int p0]) (va_Qi (fun (r : Int32) (u : Unit) => False) (fun (u : Unit) (t : State) => True) (fun q : Nat => sz ≤ q)) (vx_X (fun _ : Unit => True) (fun (E : String) (_ : Unit) (_ : State) => (E = "java/lang/IndexOutOfBoundsException")) (fun q : Nat => sz ≤ q)) 1 6 (fun q : Nat => sz ≤ q) := by
  refine vx_ofW (cc := cX7_weight) (maxL := 2) (ret := (some .int)) (by decide) rfl ?_
  intro p e s m args below meth c s₁ B hml htab hv
  obtain ⟨rfl, hsz, hP, hK, hD0, hAm⟩ := hv
  have hx := B.exec
  have hb := B.bytes
  have hr := B.returns
  have hts := atoms_spec (ws := v_c_X7_weight) B.pre
  have hown : s.vm.findClass RX7 = some m.cls := findClass_of_methodNamed B.named
  have hlocks := B.notSynchronized
  subst hsz
  have hD := hD0
  generalize hAe : (fun q : Nat => s.heap.size ≤ q) = A at hAm ⊢
  have hA : ∀ q : Nat, s.heap.size ≤ q → A q := fun q h => by rw [← hAe]; exact h
  have hS : va_S A s.heap s.heap [] := va_S.rf
  have hP : va_P (dC, dI) vwCl [(h0, .inr (12, [.ref hd, .ref hse, .ref hki, .ref hma, .ref hst, .ref hsp, .ref hlp, .ref htl, .int 0, .int 0, .int 0, .int 0, .int 0, .int 0, .int 0, .long ((0 : Int32).toInt64)])), (hd, .inr (6, [.ref hj, .ref hpr, .ref hqd, .int 0, .int 0, .int 1]))] s.heap := hP
  have hl := lv_entry ([.ref h0, .int p0]) (n := 2) (Nat.le_of_ble_eq_true rfl)
  rw [lg_entry_eq]
  generalize (lg_sl ([.ref h0, .int p0]) ++ List.replicate (2 - (lg_sl ([.ref h0, .int p0])).length) Slot.unset).toArray = ls at hl ⊢
  have hl : lv_has ls 2 [(0, .ref h0), (1, .int p0)] := hl
  refine lv_aload_n hx hb dX7_weight_0 rfl (lv_at hl 0 rfl) ?_
  refine va_get (D := (dC, dI)) (ci := 12) (v := .ref hd) (C := RX7) (T := TX7) (N := 16) hx hb hts (fun _ h9 => List.mem_cons_of_mem _ (List.mem_append_right _ (List.mem_append_left _ h9))) hown hK hP 0 rfl rfl 0 (by decide) (hts _ (List.mem_cons_of_mem _ (List.mem_append_left _ (List.mem_of_getElem? (i := 0) rfl)))) (fun _ h9 => h9) rfl dX7_weight_1 ?_
  refine lv_iload_n hx hb dX7_weight_4 rfl (lv_at hl 1 rfl) ?_
  have hPc := hP.sub (ws' := [(hd, .inr (6, [.ref hj, .ref hpr, .ref hqd, .int 0, .int 0, .int 1]))]) [1] rfl
  have hDc := hD.sub (ws' := [(hd, .inr (6, [.ref hj, .ref hpr, .ref hqd, .int 0, .int 0, .int 1]))]) [1] (by decide) rfl
  have hKc := hK.sub (tys' := []) [] rfl
  have hFc : ∀ q : Nat, s.heap.size ≤ q → A q := fun q h => hA q (Nat.le_trans hS.1 h)
  refine va_calli (va_runV (As := [.int p0]) (rest := []) ⟨hx, hb, hml, hown, hts⟩ (c_X1_hasPlace l dC dI e0 hd p0 hj hpr hqd s.heap.size) (cwV 1 hts (goodIn_sub (fun _ h9 => List.mem_cons_of_mem _ (List.mem_append_right _ (List.mem_append_right _ (List.mem_append_left _ h9)))) (by decide +kernel)) rfl rfl rfl (by decide +kernel) ⟨(Nat.le_of_ble_eq_true rfl), (Nat.le_of_ble_eq_true rfl)⟩) ⟨fz_blind, va_recv hKc hPc (ci := 6) (q0 := 0) rfl rfl, fz_pre hPc hKc hDc hAm hS hFc⟩ rfl rfl hl.1 rfl (lv_room (Nat.le_of_ble_eq_true rfl)) dX7_weight_5 ⟨(Nat.le_of_ble_eq_true rfl), (Nat.le_of_ble_eq_true rfl)⟩) hS (fun q _ h => hFc q h) hFc (fun r u t H1 locs ht hvm hw hB hz1 hk1 hS => ?_)
  obtain rfl := hw
  have hP := fz_keep hP hk1
  generalize H1 = H at hP hS ⊢
  have hP : va_P (dC, dI) vwCl [(h0, .inr (12, [.ref hd, .ref hse, .ref hki, .ref hma, .ref hst, .ref hsp, .ref hlp, .ref htl, .int 0, .int 0, .int 0, .int 0, .int 0, .int 0, .int 0, .long ((0 : Int32).toInt64)])), (hd, .inr (6, [.ref hj, .ref hpr, .ref hqd, .int 0, .int 0, .int 1]))] H := hP
  refine W.widen (k := 0) (n := 0) (Nat.le_of_ble_eq_true rfl) (Nat.le_of_ble_eq_true rfl) ?_
  refine lv_if_ne (tgt := 21) hx hb dX7_weight_8 (by decide) (fun c_9 => absurd (by decide) c_9) (fun _ => ?_)
  obtain ⟨sa_9, hst_9⟩ := hAm.1.2.2.2.2.2.1 _ fz_s_151
  have hq_9 : ∀ w ∈ fz_w_IndexOutOfBounds, w.before _ s = true := fun w h9 => hts w (List.mem_cons_of_mem _ (List.mem_append_right _ (List.mem_append_right _ (List.mem_append_right _ h9))))
  exact vx_throwS (cls := "java/lang/IndexOutOfBoundsException") (text := "there is no such place") (names := ["java/lang/RuntimeException", "java/lang/Exception"]) (ik := 123) (is := 151) (ic := 127) (sa := sa_9) hx hb hlT hown (by decide +kernel) fz_nm_IndexOutOfBounds (hq_9 _ List.mem_cons_self) (hq_9 _ (List.mem_cons_of_mem _ List.mem_cons_self)) hst_9 (fz_wf (ik := 0) hq_9 (fun _ h9 => List.mem_cons_of_mem _ (List.mem_cons_of_mem _ h9)) fz_ng_IndexOutOfBounds (hAm.1.2.1 _ fz_x_IndexOutOfBounds) hAm.1) fz_ot_IndexOutOfBounds hAm.2.1 hAm.2.2.1 hS (hl.1.trans hml.symm) dX7_weight_11 dX7_weight_14 dX7_weight_15 dX7_weight_17 dX7_weight_20 (fun x h9 => (htab x h9).elim) (by decide) (by decide) (Nat.le_of_ble_eq_true rfl) (Nat.le_of_ble_eq_true rfl) hlocks (fun t _ h1_9 h2_9 => ⟨(), trivial, rfl, fz_xF hS h1_9 h2_9⟩) hS.2.2 (Nat.le_of_ble_eq_true rfl) (Nat.le_of_ble_eq_true rfl)
def v_c_X7_stoneIn : List Cond := .code yX7_stoneIn cX7_stoneIn 3 (some .int) :: ([.fieldLink RX7 10 "VoussoirYard" "drawing" "LVoussoirYard$Drawing;"] ++ (wsX70 ++ (wsV RX7 148 RX1 yX1_hasPlace v_c_X1_hasPlace ++ (fz_w_IndexOutOfBounds))))
set_option maxRecDepth 20000 in
theorem i_c_X7_stoneIn : ∀ w ∈ v_c_X7_stoneIn, w ∈ lw_tbl := List.forall_mem_cons.mpr ⟨List.mem_of_getElem? (i := 1225) (by decide +kernel), List.forall_mem_append.mpr ⟨List.forall_mem_cons.mpr ⟨List.mem_of_getElem? (i := 219) (by decide +kernel), fun _ h => absurd h List.not_mem_nil⟩, List.forall_mem_append.mpr ⟨inX7, List.forall_mem_append.mpr ⟨(by unfold wsV; exact List.forall_mem_append.mpr ⟨List.forall_mem_cons.mpr ⟨List.mem_of_getElem? (i := 640) (by decide +kernel), List.forall_mem_cons.mpr ⟨List.mem_of_getElem? (i := 641) (by decide +kernel), List.forall_mem_cons.mpr ⟨List.mem_of_getElem? (i := 642) (by decide +kernel), List.forall_mem_cons.mpr ⟨List.mem_of_getElem? (i := 50) (by decide +kernel), fun _ h => absurd h List.not_mem_nil⟩⟩⟩⟩, i_c_X1_hasPlace⟩), fz_wi_IndexOutOfBounds⟩⟩⟩⟩
set_option maxHeartbeats 4000000 in
set_option maxRecDepth 100000 in
theorem c_X7_stoneIn (l : Launch) (dC : Nat → ClassId) (dI : Nat → Nat → Nat) (e0 : Nat) (hlT : l.stackTraces = false) (h0 : Nat) (p0 : Int32) (hd hse hki hma hst hsp hlp htl hj hpr hqd : Nat) (sz : Nat) : vx_Met l yX7_stoneIn v_c_X7_stoneIn ({ frames := 7, cells := 1, slots := 6, locals := 100 }) (fz_P (dC, dI) e0 [(h0, .inr (12, [.ref hd, .ref hse, .ref hki, .ref hma, .ref hst, .ref hsp, .ref hlp, .ref htl, .int 0, .int 0, .int 0, .int 0, .int 0, .int 0, .int 0, .long ((0 : Int32).toInt64)])), (hd, .inr (6, [.ref hj, .ref hpr, .ref hqd, .int 0, .int 0, .int 1]))] [] sz (fun q : Nat => sz ≤ q) [.ref h0, .int p0]) (va_Qi (fun (r : Int32) (u : Unit) => False) (fun (u : Unit) (t : State) => True) (fun q : Nat => sz ≤ q)) (vx_X (fun _ : Unit => True) (fun (E : String) (_ : Unit) (_ : State) => (E = "java/lang/IndexOutOfBoundsException")) (fun q : Nat => sz ≤ q)) 1 6 (fun q : Nat => sz ≤ q) := by
  refine vx_ofW (cc := cX7_stoneIn) (maxL := 3) (ret := (some .int)) (by decide) rfl ?_
  intro p e s m args below meth c s₁ B hml htab hv
  obtain ⟨rfl, hsz, hP, hK, hD0, hAm⟩ := hv
  have hx := B.exec
  have hb := B.bytes
  have hr := B.returns
  have hts := atoms_spec (ws := v_c_X7_stoneIn) B.pre
  have hown : s.vm.findClass RX7 = some m.cls := findClass_of_methodNamed B.named
  have hlocks := B.notSynchronized
  subst hsz
  have hD := hD0
  generalize hAe : (fun q : Nat => s.heap.size ≤ q) = A at hAm ⊢
  have hA : ∀ q : Nat, s.heap.size ≤ q → A q := fun q h => by rw [← hAe]; exact h
  have hS : va_S A s.heap s.heap [] := va_S.rf
  have hP : va_P (dC, dI) vwCl [(h0, .inr (12, [.ref hd, .ref hse, .ref hki, .ref hma, .ref hst, .ref hsp, .ref hlp, .ref htl, .int 0, .int 0, .int 0, .int 0, .int 0, .int 0, .int 0, .long ((0 : Int32).toInt64)])), (hd, .inr (6, [.ref hj, .ref hpr, .ref hqd, .int 0, .int 0, .int 1]))] s.heap := hP
  have hl := lv_entry ([.ref h0, .int p0]) (n := 3) (Nat.le_of_ble_eq_true rfl)
  rw [lg_entry_eq]
  generalize (lg_sl ([.ref h0, .int p0]) ++ List.replicate (3 - (lg_sl ([.ref h0, .int p0])).length) Slot.unset).toArray = ls at hl ⊢
  have hl : lv_has ls 3 [(0, .ref h0), (1, .int p0)] := hl
  refine lv_aload_n hx hb dX7_stoneIn_0 rfl (lv_at hl 0 rfl) ?_
  refine va_get (D := (dC, dI)) (ci := 12) (v := .ref hd) (C := RX7) (T := TX7) (N := 16) hx hb hts (fun _ h9 => List.mem_cons_of_mem _ (List.mem_append_right _ (List.mem_append_left _ h9))) hown hK hP 0 rfl rfl 0 (by decide) (hts _ (List.mem_cons_of_mem _ (List.mem_append_left _ (List.mem_of_getElem? (i := 0) rfl)))) (fun _ h9 => h9) rfl dX7_stoneIn_1 ?_
  refine lv_iload_n hx hb dX7_stoneIn_4 rfl (lv_at hl 1 rfl) ?_
  have hPc := hP.sub (ws' := [(hd, .inr (6, [.ref hj, .ref hpr, .ref hqd, .int 0, .int 0, .int 1]))]) [1] rfl
  have hDc := hD.sub (ws' := [(hd, .inr (6, [.ref hj, .ref hpr, .ref hqd, .int 0, .int 0, .int 1]))]) [1] (by decide) rfl
  have hKc := hK.sub (tys' := []) [] rfl
  have hFc : ∀ q : Nat, s.heap.size ≤ q → A q := fun q h => hA q (Nat.le_trans hS.1 h)
  refine va_calli (va_runV (As := [.int p0]) (rest := []) ⟨hx, hb, hml, hown, hts⟩ (c_X1_hasPlace l dC dI e0 hd p0 hj hpr hqd s.heap.size) (cwV 1 hts (goodIn_sub (fun _ h9 => List.mem_cons_of_mem _ (List.mem_append_right _ (List.mem_append_right _ (List.mem_append_left _ h9)))) (by decide +kernel)) rfl rfl rfl (by decide +kernel) ⟨(Nat.le_of_ble_eq_true rfl), (Nat.le_of_ble_eq_true rfl)⟩) ⟨fz_blind, va_recv hKc hPc (ci := 6) (q0 := 0) rfl rfl, fz_pre hPc hKc hDc hAm hS hFc⟩ rfl rfl hl.1 rfl (lv_room (Nat.le_of_ble_eq_true rfl)) dX7_stoneIn_5 ⟨(Nat.le_of_ble_eq_true rfl), (Nat.le_of_ble_eq_true rfl)⟩) hS (fun q _ h => hFc q h) hFc (fun r u t H1 locs ht hvm hw hB hz1 hk1 hS => ?_)
  obtain rfl := hw
  have hP := fz_keep hP hk1
  generalize H1 = H at hP hS ⊢
  have hP : va_P (dC, dI) vwCl [(h0, .inr (12, [.ref hd, .ref hse, .ref hki, .ref hma, .ref hst, .ref hsp, .ref hlp, .ref htl, .int 0, .int 0, .int 0, .int 0, .int 0, .int 0, .int 0, .long ((0 : Int32).toInt64)])), (hd, .inr (6, [.ref hj, .ref hpr, .ref hqd, .int 0, .int 0, .int 1]))] H := hP
  refine W.widen (k := 0) (n := 0) (Nat.le_of_ble_eq_true rfl) (Nat.le_of_ble_eq_true rfl) ?_
  refine lv_if_ne (tgt := 21) hx hb dX7_stoneIn_8 (by decide) (fun c_9 => absurd (by decide) c_9) (fun _ => ?_)
  obtain ⟨sa_9, hst_9⟩ := hAm.1.2.2.2.2.2.1 _ fz_s_151
  have hq_9 : ∀ w ∈ fz_w_IndexOutOfBounds, w.before _ s = true := fun w h9 => hts w (List.mem_cons_of_mem _ (List.mem_append_right _ (List.mem_append_right _ (List.mem_append_right _ h9))))
  exact vx_throwS (cls := "java/lang/IndexOutOfBoundsException") (text := "there is no such place") (names := ["java/lang/RuntimeException", "java/lang/Exception"]) (ik := 123) (is := 151) (ic := 127) (sa := sa_9) hx hb hlT hown (by decide +kernel) fz_nm_IndexOutOfBounds (hq_9 _ List.mem_cons_self) (hq_9 _ (List.mem_cons_of_mem _ List.mem_cons_self)) hst_9 (fz_wf (ik := 0) hq_9 (fun _ h9 => List.mem_cons_of_mem _ (List.mem_cons_of_mem _ h9)) fz_ng_IndexOutOfBounds (hAm.1.2.1 _ fz_x_IndexOutOfBounds) hAm.1) fz_ot_IndexOutOfBounds hAm.2.1 hAm.2.2.1 hS (hl.1.trans hml.symm) dX7_stoneIn_11 dX7_stoneIn_14 dX7_stoneIn_15 dX7_stoneIn_17 dX7_stoneIn_20 (fun x h9 => (htab x h9).elim) (by decide) (by decide) (Nat.le_of_ble_eq_true rfl) (Nat.le_of_ble_eq_true rfl) hlocks (fun t _ h1_9 h2_9 => ⟨(), trivial, rfl, fz_xF hS h1_9 h2_9⟩) hS.2.2 (Nat.le_of_ble_eq_true rfl) (Nat.le_of_ble_eq_true rfl)
def v_c_X7_bears : List Cond := .code yX7_bears cX7_bears 5 (some .int) :: ([.fieldLink RX7 10 "VoussoirYard" "drawing" "LVoussoirYard$Drawing;"] ++ (wsX70 ++ (wsV RX7 148 RX1 yX1_hasPlace v_c_X1_hasPlace ++ (fz_w_IndexOutOfBounds))))
set_option maxRecDepth 20000 in
theorem i_c_X7_bears : ∀ w ∈ v_c_X7_bears, w ∈ lw_tbl := List.forall_mem_cons.mpr ⟨List.mem_of_getElem? (i := 704) (by decide +kernel), List.forall_mem_append.mpr ⟨List.forall_mem_cons.mpr ⟨List.mem_of_getElem? (i := 219) (by decide +kernel), fun _ h => absurd h List.not_mem_nil⟩, List.forall_mem_append.mpr ⟨inX7, List.forall_mem_append.mpr ⟨(by unfold wsV; exact List.forall_mem_append.mpr ⟨List.forall_mem_cons.mpr ⟨List.mem_of_getElem? (i := 640) (by decide +kernel), List.forall_mem_cons.mpr ⟨List.mem_of_getElem? (i := 641) (by decide +kernel), List.forall_mem_cons.mpr ⟨List.mem_of_getElem? (i := 642) (by decide +kernel), List.forall_mem_cons.mpr ⟨List.mem_of_getElem? (i := 50) (by decide +kernel), fun _ h => absurd h List.not_mem_nil⟩⟩⟩⟩, i_c_X1_hasPlace⟩), fz_wi_IndexOutOfBounds⟩⟩⟩⟩
set_option maxHeartbeats 4000000 in
set_option maxRecDepth 100000 in
theorem c_X7_bears (l : Launch) (dC : Nat → ClassId) (dI : Nat → Nat → Nat) (e0 : Nat) (hlT : l.stackTraces = false) (h0 : Nat) (p0 p1 : Int32) (hd hse hki hma hst hsp hlp htl hj hpr hqd : Nat) (sz : Nat) : vx_Met l yX7_bears v_c_X7_bears ({ frames := 7, cells := 1, slots := 6, locals := 100 }) (fz_P (dC, dI) e0 [(h0, .inr (12, [.ref hd, .ref hse, .ref hki, .ref hma, .ref hst, .ref hsp, .ref hlp, .ref htl, .int 0, .int 0, .int 0, .int 0, .int 0, .int 0, .int 0, .long ((0 : Int32).toInt64)])), (hd, .inr (6, [.ref hj, .ref hpr, .ref hqd, .int 0, .int 0, .int 1]))] [] sz (fun q : Nat => sz ≤ q) [.ref h0, .int p0, .int p1]) (va_Qi (fun (r : Int32) (u : Unit) => False) (fun (u : Unit) (t : State) => True) (fun q : Nat => sz ≤ q)) (vx_X (fun _ : Unit => True) (fun (E : String) (_ : Unit) (_ : State) => (E = "java/lang/IndexOutOfBoundsException")) (fun q : Nat => sz ≤ q)) 1 6 (fun q : Nat => sz ≤ q) := by
  refine vx_ofW (cc := cX7_bears) (maxL := 5) (ret := (some .int)) (by decide) rfl ?_
  intro p e s m args below meth c s₁ B hml htab hv
  obtain ⟨rfl, hsz, hP, hK, hD0, hAm⟩ := hv
  have hx := B.exec
  have hb := B.bytes
  have hr := B.returns
  have hts := atoms_spec (ws := v_c_X7_bears) B.pre
  have hown : s.vm.findClass RX7 = some m.cls := findClass_of_methodNamed B.named
  have hlocks := B.notSynchronized
  subst hsz
  have hD := hD0
  generalize hAe : (fun q : Nat => s.heap.size ≤ q) = A at hAm ⊢
  have hA : ∀ q : Nat, s.heap.size ≤ q → A q := fun q h => by rw [← hAe]; exact h
  have hS : va_S A s.heap s.heap [] := va_S.rf
  have hP : va_P (dC, dI) vwCl [(h0, .inr (12, [.ref hd, .ref hse, .ref hki, .ref hma, .ref hst, .ref hsp, .ref hlp, .ref htl, .int 0, .int 0, .int 0, .int 0, .int 0, .int 0, .int 0, .long ((0 : Int32).toInt64)])), (hd, .inr (6, [.ref hj, .ref hpr, .ref hqd, .int 0, .int 0, .int 1]))] s.heap := hP
  have hl := lv_entry ([.ref h0, .int p0, .int p1]) (n := 5) (Nat.le_of_ble_eq_true rfl)
  rw [lg_entry_eq]
  generalize (lg_sl ([.ref h0, .int p0, .int p1]) ++ List.replicate (5 - (lg_sl ([.ref h0, .int p0, .int p1])).length) Slot.unset).toArray = ls at hl ⊢
  have hl : lv_has ls 5 [(0, .ref h0), (1, .int p0), (2, .int p1)] := hl
  refine lv_aload_n hx hb dX7_bears_0 rfl (lv_at hl 0 rfl) ?_
  refine va_get (D := (dC, dI)) (ci := 12) (v := .ref hd) (C := RX7) (T := TX7) (N := 16) hx hb hts (fun _ h9 => List.mem_cons_of_mem _ (List.mem_append_right _ (List.mem_append_left _ h9))) hown hK hP 0 rfl rfl 0 (by decide) (hts _ (List.mem_cons_of_mem _ (List.mem_append_left _ (List.mem_of_getElem? (i := 0) rfl)))) (fun _ h9 => h9) rfl dX7_bears_1 ?_
  refine lv_iload_n hx hb dX7_bears_4 rfl (lv_at hl 1 rfl) ?_
  have hPc := hP.sub (ws' := [(hd, .inr (6, [.ref hj, .ref hpr, .ref hqd, .int 0, .int 0, .int 1]))]) [1] rfl
  have hDc := hD.sub (ws' := [(hd, .inr (6, [.ref hj, .ref hpr, .ref hqd, .int 0, .int 0, .int 1]))]) [1] (by decide) rfl
  have hKc := hK.sub (tys' := []) [] rfl
  have hFc : ∀ q : Nat, s.heap.size ≤ q → A q := fun q h => hA q (Nat.le_trans hS.1 h)
  refine va_calli (va_runV (As := [.int p0]) (rest := []) ⟨hx, hb, hml, hown, hts⟩ (c_X1_hasPlace l dC dI e0 hd p0 hj hpr hqd s.heap.size) (cwV 1 hts (goodIn_sub (fun _ h9 => List.mem_cons_of_mem _ (List.mem_append_right _ (List.mem_append_right _ (List.mem_append_left _ h9)))) (by decide +kernel)) rfl rfl rfl (by decide +kernel) ⟨(Nat.le_of_ble_eq_true rfl), (Nat.le_of_ble_eq_true rfl)⟩) ⟨fz_blind, va_recv hKc hPc (ci := 6) (q0 := 0) rfl rfl, fz_pre hPc hKc hDc hAm hS hFc⟩ rfl rfl hl.1 rfl (lv_room (Nat.le_of_ble_eq_true rfl)) dX7_bears_5 ⟨(Nat.le_of_ble_eq_true rfl), (Nat.le_of_ble_eq_true rfl)⟩) hS (fun q _ h => hFc q h) hFc (fun r u t H1 locs ht hvm hw hB hz1 hk1 hS => ?_)
  obtain rfl := hw
  have hP := fz_keep hP hk1
  generalize H1 = H at hP hS ⊢
  have hP : va_P (dC, dI) vwCl [(h0, .inr (12, [.ref hd, .ref hse, .ref hki, .ref hma, .ref hst, .ref hsp, .ref hlp, .ref htl, .int 0, .int 0, .int 0, .int 0, .int 0, .int 0, .int 0, .long ((0 : Int32).toInt64)])), (hd, .inr (6, [.ref hj, .ref hpr, .ref hqd, .int 0, .int 0, .int 1]))] H := hP
  refine W.widen (k := 0) (n := 0) (Nat.le_of_ble_eq_true rfl) (Nat.le_of_ble_eq_true rfl) ?_
  refine lv_if_ne (tgt := 21) hx hb dX7_bears_8 (by decide) (fun c_9 => absurd (by decide) c_9) (fun _ => ?_)
  obtain ⟨sa_9, hst_9⟩ := hAm.1.2.2.2.2.2.1 _ fz_s_151
  have hq_9 : ∀ w ∈ fz_w_IndexOutOfBounds, w.before _ s = true := fun w h9 => hts w (List.mem_cons_of_mem _ (List.mem_append_right _ (List.mem_append_right _ (List.mem_append_right _ h9))))
  exact vx_throwS (cls := "java/lang/IndexOutOfBoundsException") (text := "there is no such place") (names := ["java/lang/RuntimeException", "java/lang/Exception"]) (ik := 123) (is := 151) (ic := 127) (sa := sa_9) hx hb hlT hown (by decide +kernel) fz_nm_IndexOutOfBounds (hq_9 _ List.mem_cons_self) (hq_9 _ (List.mem_cons_of_mem _ List.mem_cons_self)) hst_9 (fz_wf (ik := 0) hq_9 (fun _ h9 => List.mem_cons_of_mem _ (List.mem_cons_of_mem _ h9)) fz_ng_IndexOutOfBounds (hAm.1.2.1 _ fz_x_IndexOutOfBounds) hAm.1) fz_ot_IndexOutOfBounds hAm.2.1 hAm.2.2.1 hS (hl.1.trans hml.symm) dX7_bears_11 dX7_bears_14 dX7_bears_15 dX7_bears_17 dX7_bears_20 (fun x h9 => (htab x h9).elim) (by decide) (by decide) (Nat.le_of_ble_eq_true rfl) (Nat.le_of_ble_eq_true rfl) hlocks (fun t _ h1_9 h2_9 => ⟨(), trivial, rfl, fz_xF hS h1_9 h2_9⟩) hS.2.2 (Nat.le_of_ble_eq_true rfl) (Nat.le_of_ble_eq_true rfl)
def v_c_X7_grip : List Cond := .code yX7_grip cX7_grip 2 (some .int) :: ([] ++ (wsV RX7 186 RX7 yX7_isWholeArchFilled v_c_X7_isWholeArchFilled))
set_option maxRecDepth 20000 in
theorem i_c_X7_grip : ∀ w ∈ v_c_X7_grip, w ∈ lw_tbl := List.forall_mem_cons.mpr ⟨List.mem_of_getElem? (i := 282) (by decide +kernel), List.forall_mem_append.mpr ⟨fun _ h => absurd h List.not_mem_nil, (by unfold wsV; exact List.forall_mem_append.mpr ⟨List.forall_mem_cons.mpr ⟨List.mem_of_getElem? (i := 283) (by decide +kernel), List.forall_mem_cons.mpr ⟨List.mem_of_getElem? (i := 285) (by decide +kernel), List.forall_mem_cons.mpr ⟨List.mem_of_getElem? (i := 0) (by decide +kernel), List.forall_mem_cons.mpr ⟨List.mem_of_getElem? (i := 49) (by decide +kernel), fun _ h => absurd h List.not_mem_nil⟩⟩⟩⟩, i_c_X7_isWholeArchFilled⟩)⟩⟩
set_option maxHeartbeats 4000000 in
set_option maxRecDepth 100000 in
theorem c_X7_grip (l : Launch) (dC : Nat → ClassId) (dI : Nat → Nat → Nat) (e0 : Nat) (h0 hd hse hki hma hst hsp hlp htl hj hpr hqd : Nat) (sz : Nat) : Met l yX7_grip v_c_X7_grip ({ frames := 3, cells := 0, slots := 0, locals := 70 }) (fz_P (dC, dI) e0 [(h0, .inr (12, [.ref hd, .ref hse, .ref hki, .ref hma, .ref hst, .ref hsp, .ref hlp, .ref htl, .int 0, .int 0, .int 0, .int 0, .int 0, .int 0, .int 0, .long ((0 : Int32).toInt64)])), (hd, .inr (6, [.ref hj, .ref hpr, .ref hqd, .int 0, .int 0, .int 1]))] [] sz (fun q : Nat => sz ≤ q) [.ref h0]) (va_Qi (fun (r : Int32) (u : Unit) => r = 3) (fun (u : Unit) (t : State) => True) (fun q : Nat => sz ≤ q)) 0 0 (fun q : Nat => sz ≤ q) := by
  refine Met.ofW (cc := cX7_grip) (maxL := 2) (ret := (some .int)) (by decide) rfl ?_
  intro p e s m args below meth c s₁ B hml hv
  obtain ⟨rfl, hsz, hP, hK, hD0, hAm⟩ := hv
  have hx := B.exec
  have hb := B.bytes
  have hr := B.returns
  have hts := atoms_spec (ws := v_c_X7_grip) B.pre
  have hown : s.vm.findClass RX7 = some m.cls := findClass_of_methodNamed B.named
  have hlocks := B.notSynchronized
  subst hsz
  have hD := hD0
  generalize hAe : (fun q : Nat => s.heap.size ≤ q) = A at hAm ⊢
  have hA : ∀ q : Nat, s.heap.size ≤ q → A q := fun q h => by rw [← hAe]; exact h
  have hS : va_S A s.heap s.heap [] := va_S.rf
  have hP : va_P (dC, dI) vwCl [(h0, .inr (12, [.ref hd, .ref hse, .ref hki, .ref hma, .ref hst, .ref hsp, .ref hlp, .ref htl, .int 0, .int 0, .int 0, .int 0, .int 0, .int 0, .int 0, .long ((0 : Int32).toInt64)])), (hd, .inr (6, [.ref hj, .ref hpr, .ref hqd, .int 0, .int 0, .int 1]))] s.heap := hP
  have hl := lv_entry ([.ref h0]) (n := 2) (Nat.le_of_ble_eq_true rfl)
  rw [lg_entry_eq]
  generalize (lg_sl ([.ref h0]) ++ List.replicate (2 - (lg_sl ([.ref h0])).length) Slot.unset).toArray = ls at hl ⊢
  have hl : lv_has ls 2 [(0, .ref h0)] := hl
  refine lv_aload_n hx hb dX7_grip_0 rfl (lv_at hl 0 rfl) ?_
  have hPc := hP.sub (ws' := [(h0, .inr (12, [.ref hd, .ref hse, .ref hki, .ref hma, .ref hst, .ref hsp, .ref hlp, .ref htl, .int 0, .int 0, .int 0, .int 0, .int 0, .int 0, .int 0, .long ((0 : Int32).toInt64)])), (hd, .inr (6, [.ref hj, .ref hpr, .ref hqd, .int 0, .int 0, .int 1]))]) [0, 1] rfl
  have hDc := hD.sub (ws' := [(h0, .inr (12, [.ref hd, .ref hse, .ref hki, .ref hma, .ref hst, .ref hsp, .ref hlp, .ref htl, .int 0, .int 0, .int 0, .int 0, .int 0, .int 0, .int 0, .long ((0 : Int32).toInt64)])), (hd, .inr (6, [.ref hj, .ref hpr, .ref hqd, .int 0, .int 0, .int 1]))]) [0, 1] (by decide) rfl
  have hKc := hK.sub (tys' := []) [] rfl
  have hFc : ∀ q : Nat, s.heap.size ≤ q → A q := fun q h => hA q (Nat.le_trans hS.1 h)
  refine va_calli (va_runV (As := []) (rest := []) ⟨hx, hb, hml, hown, hts⟩ (c_X7_isWholeArchFilled l dC dI e0 h0 hd hse hki hma hst hsp hlp htl hj hpr hqd s.heap.size) (cwV 0 hts (goodIn_sub (fun _ h9 => List.mem_cons_of_mem _ (List.mem_append_right _ (h9))) (by decide +kernel)) rfl rfl rfl (by decide +kernel) ⟨(Nat.le_of_ble_eq_true rfl), (Nat.le_of_ble_eq_true rfl)⟩) ⟨fz_blind, va_recv hKc hPc (ci := 12) (q0 := 0) rfl rfl, fz_pre hPc hKc hDc hAm hS hFc⟩ rfl rfl hl.1 rfl (lv_room (Nat.le_of_ble_eq_true rfl)) dX7_grip_1 ⟨(Nat.le_of_ble_eq_true rfl), (Nat.le_of_ble_eq_true rfl)⟩) hS (fun q _ h => hFc q h) hFc (fun r u t H1 locs ht hvm hw hB hz1 hk1 hS => ?_)
  obtain rfl := hw
  have hP := fz_keep hP hk1
  generalize H1 = H at hP hS ⊢
  have hP : va_P (dC, dI) vwCl [(h0, .inr (12, [.ref hd, .ref hse, .ref hki, .ref hma, .ref hst, .ref hsp, .ref hlp, .ref htl, .int 0, .int 0, .int 0, .int 0, .int 0, .int 0, .int 0, .long ((0 : Int32).toInt64)])), (hd, .inr (6, [.ref hj, .ref hpr, .ref hqd, .int 0, .int 0, .int 1]))] H := hP
  refine W.widen (k := 0) (n := 0) (Nat.le_of_ble_eq_true rfl) (Nat.le_of_ble_eq_true rfl) ?_
  refine lv_if_ne (tgt := 9) hx hb dX7_grip_4 (by decide) (fun c_9 => absurd (by decide) c_9) (fun _ => ?_)
  refine lv_iconst (v := 3) hx hb dX7_grip_7 (by decide) ?_
  refine W.widen (k := 0) (n := 0) (Nat.le_of_ble_eq_true rfl) (Nat.le_of_ble_eq_true rfl) ?_
  exact W.iret (v := 3) hx hb hr (fun t ht hW => ⟨⟨3, (), rfl, rfl, trivial⟩, hS.F ht⟩) hS.2.2 dX7_grip_8
def v_c_X7_addBlocks : List Cond := .code yX7_addBlocks cX7_addBlocks 6 (some .int) :: ([.fieldLink RX7 51 "VoussoirYard" "kindCount" "I", .fieldLink RX7 25 "VoussoirYard" "kinds" "[LVoussoirYard$BlockKind;", .classLink RX7 23 RX0, .instantiable RX0 5, .initialized RX0, .methodLink RX7 210 yX0_init, .instanceMethod yX0_init] ++ (wsS RX7 205 yX7_isBetween v_c_X7_isBetween ++ (wsX70 ++ (wsX00 ++ (v_c_X0_init ++ (fz_w_IllegalArgument))))))
set_option maxRecDepth 20000 in
theorem i_c_X7_addBlocks : ∀ w ∈ v_c_X7_addBlocks, w ∈ lw_tbl := List.forall_mem_cons.mpr ⟨List.mem_of_getElem? (i := 719) (by decide +kernel), List.forall_mem_append.mpr ⟨List.forall_mem_cons.mpr ⟨List.mem_of_getElem? (i := 227) (by decide +kernel), List.forall_mem_cons.mpr ⟨List.mem_of_getElem? (i := 221) (by decide +kernel), List.forall_mem_cons.mpr ⟨List.mem_of_getElem? (i := 213) (by decide +kernel), List.forall_mem_cons.mpr ⟨List.mem_of_getElem? (i := 724) (by decide +kernel), List.forall_mem_cons.mpr ⟨List.mem_of_getElem? (i := 75) (by decide +kernel), List.forall_mem_cons.mpr ⟨List.mem_of_getElem? (i := 725) (by decide +kernel), List.forall_mem_cons.mpr ⟨List.mem_of_getElem? (i := 726) (by decide +kernel), fun _ h => absurd h List.not_mem_nil⟩⟩⟩⟩⟩⟩⟩, List.forall_mem_append.mpr ⟨(by unfold wsS; exact List.forall_mem_append.mpr ⟨List.forall_mem_cons.mpr ⟨List.mem_of_getElem? (i := 720) (by decide +kernel), List.forall_mem_cons.mpr ⟨List.mem_of_getElem? (i := 721) (by decide +kernel), List.forall_mem_cons.mpr ⟨List.mem_of_getElem? (i := 49) (by decide +kernel), fun _ h => absurd h List.not_mem_nil⟩⟩⟩, i_c_X7_isBetween⟩), List.forall_mem_append.mpr ⟨inX7, List.forall_mem_append.mpr ⟨inX0, List.forall_mem_append.mpr ⟨i_c_X0_init, fz_wi_IllegalArgument⟩⟩⟩⟩⟩⟩
theorem q_c_X7_addBlocks_0 {p0 p1 p2 p3 : Int32} (hp_1 : fz_in p0 1 20) (hp_3 : fz_in p1 1 20) (hp_5 : fz_in p2 1 99) (hp_7 : fz_in p3 0 999) : (fz_in p0 1 20 ∧ fz_in p1 1 20 ∧ fz_in p2 1 99 ∧ fz_in p3 0 999) := by
  first | assumption | (simp_all [fz_in, fz_v]; done) | (simp only [fz_in, fz_v] at *; grind)
theorem q_c_X7_addBlocks_1 {p0 p1 p2 p3 : Int32} (hp_1 : fz_in p0 1 20) (hp_3 : fz_in p1 1 20) (hp_5 : fz_in p2 1 99) (hp_8 : ¬ fz_in p3 0 999) : ¬ (fz_in p0 1 20 ∧ fz_in p1 1 20 ∧ fz_in p2 1 99 ∧ fz_in p3 0 999) := by
  first | assumption | (simp_all [fz_in, fz_v]; done) | (simp only [fz_in, fz_v] at *; grind)
theorem q_c_X7_addBlocks_2 {p0 p1 p2 p3 : Int32} (hp_1 : fz_in p0 1 20) (hp_3 : fz_in p1 1 20) (hp_6 : ¬ fz_in p2 1 99) : ¬ (fz_in p0 1 20 ∧ fz_in p1 1 20 ∧ fz_in p2 1 99 ∧ fz_in p3 0 999) := by
  first | assumption | (simp_all [fz_in, fz_v]; done) | (simp only [fz_in, fz_v] at *; grind)
theorem q_c_X7_addBlocks_3 {p0 p1 p2 p3 : Int32} (hp_1 : fz_in p0 1 20) (hp_4 : ¬ fz_in p1 1 20) : ¬ (fz_in p0 1 20 ∧ fz_in p1 1 20 ∧ fz_in p2 1 99 ∧ fz_in p3 0 999) := by
  first | assumption | (simp_all [fz_in, fz_v]; done) | (simp only [fz_in, fz_v] at *; grind)
theorem q_c_X7_addBlocks_4 {p0 p1 p2 p3 : Int32} (hp_2 : ¬ fz_in p0 1 20) : ¬ (fz_in p0 1 20 ∧ fz_in p1 1 20 ∧ fz_in p2 1 99 ∧ fz_in p3 0 999) := by
  first | assumption | (simp_all [fz_in, fz_v]; done) | (simp only [fz_in, fz_v] at *; grind)
set_option maxHeartbeats 4000000 in
set_option maxRecDepth 100000 in
theorem c_X7_addBlocks (l : Launch) (dC : Nat → ClassId) (dI : Nat → Nat → Nat) (e0 : Nat) (hlT : l.stackTraces = false) (h0 : Nat) (p0 p1 p2 p3 b4 : Int32) (hd hse hki hma hst hsp hlp htl : Nat) (cK : ClassId) (fki : Nat → Option Nat) (sz : Nat) (h_b4 : b4 = 0 ∨ b4 = 1) : vx_Met l yX7_addBlocks v_c_X7_addBlocks ({ frames := 7, cells := 1, slots := 6, locals := 100 }) (fz_P (dC, dI) e0 [(h0, .inr (12, [.ref hd, .ref hse, .ref hki, .ref hma, .ref hst, .ref hsp, .ref hlp, .ref htl, .int 0, .int 0, .int 0, .int 0, .int 0, .int 0, .int 0, .long ((0 : Int32).toInt64)])), (hki, .inl (cK, 6, .inr (.inr (.inr (.inr fki)))))] [(cK, .object RX0)] sz (va_A [(h0, .inr (12, [.ref hd, .ref hse, .ref hki, .ref hma, .ref hst, .ref hsp, .ref hlp, .ref htl, .int 0, .int 0, .int 0, .int 0, .int 0, .int 0, .int 0, .long ((0 : Int32).toInt64)])), (hki, .inl (cK, 6, .inr (.inr (.inr (.inr fki)))))] sz) [.ref h0, .int p0, .int p1, .int p2, .int p3, .int b4]) (va_Qi (fun (r : Int32) (u : Unit) => r = 0 ∧ ((fz_in p0 1 20 ∧ fz_in p1 1 20 ∧ fz_in p2 1 99 ∧ fz_in p3 0 999))) (fun (u : Unit) (t : State) => True) (va_A [(h0, .inr (12, [.ref hd, .ref hse, .ref hki, .ref hma, .ref hst, .ref hsp, .ref hlp, .ref htl, .int 0, .int 0, .int 0, .int 0, .int 0, .int 0, .int 0, .long ((0 : Int32).toInt64)])), (hki, .inl (cK, 6, .inr (.inr (.inr (.inr fki)))))] sz)) (vx_X (fun _ : Unit => True) (fun (E : String) (_ : Unit) (_ : State) => (E = "java/lang/IllegalArgumentException" ∧ ¬ (fz_in p0 1 20 ∧ fz_in p1 1 20 ∧ fz_in p2 1 99 ∧ fz_in p3 0 999))) (va_A [(h0, .inr (12, [.ref hd, .ref hse, .ref hki, .ref hma, .ref hst, .ref hsp, .ref hlp, .ref htl, .int 0, .int 0, .int 0, .int 0, .int 0, .int 0, .int 0, .long ((0 : Int32).toInt64)])), (hki, .inl (cK, 6, .inr (.inr (.inr (.inr fki)))))] sz)) 1 6 (va_A [(h0, .inr (12, [.ref hd, .ref hse, .ref hki, .ref hma, .ref hst, .ref hsp, .ref hlp, .ref htl, .int 0, .int 0, .int 0, .int 0, .int 0, .int 0, .int 0, .long ((0 : Int32).toInt64)])), (hki, .inl (cK, 6, .inr (.inr (.inr (.inr fki)))))] sz) := by
  refine vx_ofW (cc := cX7_addBlocks) (maxL := 6) (ret := (some .int)) (by decide) rfl ?_
  intro p e s m args below meth c s₁ B hml htab hv
  obtain ⟨rfl, hsz, hP, hK, hD0, hAm⟩ := hv
  have hx := B.exec
  have hb := B.bytes
  have hr := B.returns
  have hts := atoms_spec (ws := v_c_X7_addBlocks) B.pre
  have hown : s.vm.findClass RX7 = some m.cls := findClass_of_methodNamed B.named
  have hlocks := B.notSynchronized
  subst hsz
  have hD := hD0.self (sz := s.heap.size)
  generalize hAe : va_A [(h0, .inr (12, [.ref hd, .ref hse, .ref hki, .ref hma, .ref hst, .ref hsp, .ref hlp, .ref htl, .int 0, .int 0, .int 0, .int 0, .int 0, .int 0, .int 0, .long ((0 : Int32).toInt64)])), (hki, .inl (cK, 6, .inr (.inr (.inr (.inr fki)))))] s.heap.size = A at hD hAm ⊢
  have hA : ∀ q : Nat, s.heap.size ≤ q → A q := fun q h => by rw [← hAe]; exact Or.inr h
  have hS : va_S A s.heap s.heap [] := va_S.rf
  have hP : va_P (dC, dI) vwCl [(h0, .inr (12, [.ref hd, .ref hse, .ref hki, .ref hma, .ref hst, .ref hsp, .ref hlp, .ref htl, .int 0, .int 0, .int 0, .int 0, .int 0, .int 0, .int 0, .long ((0 : Int32).toInt64)])), (hki, .inl (cK, 6, .inr (.inr (.inr (.inr fki)))))] s.heap := hP
  have hl := lv_entry ([.ref h0, .int p0, .int p1, .int p2, .int p3, .int b4]) (n := 6) (Nat.le_of_ble_eq_true rfl)
  rw [lg_entry_eq]
  generalize (lg_sl ([.ref h0, .int p0, .int p1, .int p2, .int p3, .int b4]) ++ List.replicate (6 - (lg_sl ([.ref h0, .int p0, .int p1, .int p2, .int p3, .int b4])).length) Slot.unset).toArray = ls at hl ⊢
  have hl : lv_has ls 6 [(0, .ref h0), (1, .int p0), (2, .int p1), (3, .int p2), (4, .int p3), (5, .int b4)] := hl
  refine lv_iload_n hx hb dX7_addBlocks_0 rfl (lv_at hl 1 rfl) ?_
  refine lv_iconst (v := 1) hx hb dX7_addBlocks_1 (by decide) ?_
  refine lv_bipush (v := 20) hx hb dX7_addBlocks_2 (by decide) ?_
  have hPc := hP.sub (ws' := []) [] rfl
  have hDc := hD.sub (ws' := []) [] (by decide) rfl
  have hKc := hK.sub (tys' := []) [] rfl
  have hFc : ∀ q : Nat, s.heap.size ≤ q → A q := fun q h => hA q (Nat.le_trans hS.1 h)
  refine va_calli (va_runS (As := [.int p0, .int 1, .int 20]) (rest := []) ⟨hx, hb, hml, hown, hts⟩ (c_X7_isBetween l dC dI e0 p0 1 20 s.heap.size) (cwS 3 hts (goodIn_sub (fun _ h9 => List.mem_cons_of_mem _ (List.mem_append_right _ (List.mem_append_left _ h9))) (by decide +kernel)) rfl rfl rfl (by decide +kernel) ⟨(Nat.le_of_ble_eq_true rfl), (Nat.le_of_ble_eq_true rfl)⟩) ⟨fz_blind, fz_pre hPc hKc hDc hAm hS hFc⟩ rfl rfl hl.1 rfl (lv_room (Nat.le_of_ble_eq_true rfl)) dX7_addBlocks_4 ⟨(Nat.le_of_ble_eq_true rfl), (Nat.le_of_ble_eq_true rfl)⟩) hS (fun q _ h => hFc q h) hFc (fun r u t H1 locs ht hvm hw hB hz1 hk1 hS => ?_)
  rcases hw with ⟨rfl, hp_1⟩ | ⟨rfl, hp_2⟩
  · have hP := fz_keep hP hk1
    generalize H1 = H at hP hS ⊢
    have hP : va_P (dC, dI) vwCl [(h0, .inr (12, [.ref hd, .ref hse, .ref hki, .ref hma, .ref hst, .ref hsp, .ref hlp, .ref htl, .int 0, .int 0, .int 0, .int 0, .int 0, .int 0, .int 0, .long ((0 : Int32).toInt64)])), (hki, .inl (cK, 6, .inr (.inr (.inr (.inr fki)))))] H := hP
    have hD : va_D A [(h0, .inr (12, [.ref hd, .ref hse, .ref hki, .ref hma, .ref hst, .ref hsp, .ref hlp, .ref htl, .int 0, .int 0, .int 0, .int 0, .int 0, .int 0, .int 0, .long ((0 : Int32).toInt64)])), (hki, .inl (cK, 6, .inr (.inr (.inr (.inr fki)))))] := hD
    refine W.widen (k := 0) (n := 0) (Nat.le_of_ble_eq_true rfl) (Nat.le_of_ble_eq_true rfl) ?_
    refine lv_if_eq (tgt := 42) hx hb dX7_addBlocks_7 (by decide) (fun c_9 => absurd c_9 (by decide)) (fun _ => ?_)
    refine lv_iload_n hx hb dX7_addBlocks_10 rfl (lv_at hl 2 rfl) ?_
    refine lv_iconst (v := 1) hx hb dX7_addBlocks_11 (by decide) ?_
    refine lv_bipush (v := 20) hx hb dX7_addBlocks_12 (by decide) ?_
    have hPc := hP.sub (ws' := []) [] rfl
    have hDc := hD.sub (ws' := []) [] (by decide) rfl
    have hKc := hK.sub (tys' := []) [] rfl
    have hFc : ∀ q : Nat, H.size ≤ q → A q := fun q h => hA q (Nat.le_trans hS.1 h)
    refine va_calli (va_runS (As := [.int p1, .int 1, .int 20]) (rest := []) ⟨hx, hb, hml, hown, hts⟩ (c_X7_isBetween l dC dI e0 p1 1 20 H.size) (cwS 3 hts (goodIn_sub (fun _ h9 => List.mem_cons_of_mem _ (List.mem_append_right _ (List.mem_append_left _ h9))) (by decide +kernel)) rfl rfl rfl (by decide +kernel) ⟨(Nat.le_of_ble_eq_true rfl), (Nat.le_of_ble_eq_true rfl)⟩) ⟨fz_blind, fz_pre hPc hKc hDc hAm hS hFc⟩ rfl rfl hl.1 rfl (lv_room (Nat.le_of_ble_eq_true rfl)) dX7_addBlocks_14 ⟨(Nat.le_of_ble_eq_true rfl), (Nat.le_of_ble_eq_true rfl)⟩) hS (fun q _ h => hFc q h) hFc (fun r u t H1 locs ht hvm hw hB hz1 hk1 hS => ?_)
    rcases hw with ⟨rfl, hp_3⟩ | ⟨rfl, hp_4⟩
    · have hP := fz_keep hP hk1
      generalize H1 = H at hP hS ⊢
      have hP : va_P (dC, dI) vwCl [(h0, .inr (12, [.ref hd, .ref hse, .ref hki, .ref hma, .ref hst, .ref hsp, .ref hlp, .ref htl, .int 0, .int 0, .int 0, .int 0, .int 0, .int 0, .int 0, .long ((0 : Int32).toInt64)])), (hki, .inl (cK, 6, .inr (.inr (.inr (.inr fki)))))] H := hP
      have hD : va_D A [(h0, .inr (12, [.ref hd, .ref hse, .ref hki, .ref hma, .ref hst, .ref hsp, .ref hlp, .ref htl, .int 0, .int 0, .int 0, .int 0, .int 0, .int 0, .int 0, .long ((0 : Int32).toInt64)])), (hki, .inl (cK, 6, .inr (.inr (.inr (.inr fki)))))] := hD
      refine W.widen (k := 0) (n := 0) (Nat.le_of_ble_eq_true rfl) (Nat.le_of_ble_eq_true rfl) ?_
      refine lv_if_eq (tgt := 42) hx hb dX7_addBlocks_17 (by decide) (fun c_9 => absurd c_9 (by decide)) (fun _ => ?_)
      refine lv_iload_n hx hb dX7_addBlocks_20 rfl (lv_at hl 3 rfl) ?_
      refine lv_iconst (v := 1) hx hb dX7_addBlocks_21 (by decide) ?_
      refine lv_bipush (v := 99) hx hb dX7_addBlocks_22 (by decide) ?_
      have hPc := hP.sub (ws' := []) [] rfl
      have hDc := hD.sub (ws' := []) [] (by decide) rfl
      have hKc := hK.sub (tys' := []) [] rfl
      have hFc : ∀ q : Nat, H.size ≤ q → A q := fun q h => hA q (Nat.le_trans hS.1 h)
      refine va_calli (va_runS (As := [.int p2, .int 1, .int 99]) (rest := []) ⟨hx, hb, hml, hown, hts⟩ (c_X7_isBetween l dC dI e0 p2 1 99 H.size) (cwS 3 hts (goodIn_sub (fun _ h9 => List.mem_cons_of_mem _ (List.mem_append_right _ (List.mem_append_left _ h9))) (by decide +kernel)) rfl rfl rfl (by decide +kernel) ⟨(Nat.le_of_ble_eq_true rfl), (Nat.le_of_ble_eq_true rfl)⟩) ⟨fz_blind, fz_pre hPc hKc hDc hAm hS hFc⟩ rfl rfl hl.1 rfl (lv_room (Nat.le_of_ble_eq_true rfl)) dX7_addBlocks_24 ⟨(Nat.le_of_ble_eq_true rfl), (Nat.le_of_ble_eq_true rfl)⟩) hS (fun q _ h => hFc q h) hFc (fun r u t H1 locs ht hvm hw hB hz1 hk1 hS => ?_)
      rcases hw with ⟨rfl, hp_5⟩ | ⟨rfl, hp_6⟩
      · have hP := fz_keep hP hk1
        generalize H1 = H at hP hS ⊢
        have hP : va_P (dC, dI) vwCl [(h0, .inr (12, [.ref hd, .ref hse, .ref hki, .ref hma, .ref hst, .ref hsp, .ref hlp, .ref htl, .int 0, .int 0, .int 0, .int 0, .int 0, .int 0, .int 0, .long ((0 : Int32).toInt64)])), (hki, .inl (cK, 6, .inr (.inr (.inr (.inr fki)))))] H := hP
        have hD : va_D A [(h0, .inr (12, [.ref hd, .ref hse, .ref hki, .ref hma, .ref hst, .ref hsp, .ref hlp, .ref htl, .int 0, .int 0, .int 0, .int 0, .int 0, .int 0, .int 0, .long ((0 : Int32).toInt64)])), (hki, .inl (cK, 6, .inr (.inr (.inr (.inr fki)))))] := hD
        refine W.widen (k := 0) (n := 0) (Nat.le_of_ble_eq_true rfl) (Nat.le_of_ble_eq_true rfl) ?_
        refine lv_if_eq (tgt := 42) hx hb dX7_addBlocks_27 (by decide) (fun c_9 => absurd c_9 (by decide)) (fun _ => ?_)
        refine lv_iload hx hb dX7_addBlocks_30 (lv_at hl 4 rfl) ?_
        refine lv_iconst (v := 0) hx hb dX7_addBlocks_32 (by decide) ?_
        refine lv_sipush (v := 999) hx hb dX7_addBlocks_33 (by decide) ?_
        have hPc := hP.sub (ws' := []) [] rfl
        have hDc := hD.sub (ws' := []) [] (by decide) rfl
        have hKc := hK.sub (tys' := []) [] rfl
        have hFc : ∀ q : Nat, H.size ≤ q → A q := fun q h => hA q (Nat.le_trans hS.1 h)
        refine va_calli (va_runS (As := [.int p3, .int 0, .int 999]) (rest := []) ⟨hx, hb, hml, hown, hts⟩ (c_X7_isBetween l dC dI e0 p3 0 999 H.size) (cwS 3 hts (goodIn_sub (fun _ h9 => List.mem_cons_of_mem _ (List.mem_append_right _ (List.mem_append_left _ h9))) (by decide +kernel)) rfl rfl rfl (by decide +kernel) ⟨(Nat.le_of_ble_eq_true rfl), (Nat.le_of_ble_eq_true rfl)⟩) ⟨fz_blind, fz_pre hPc hKc hDc hAm hS hFc⟩ rfl rfl hl.1 rfl (lv_room (Nat.le_of_ble_eq_true rfl)) dX7_addBlocks_36 ⟨(Nat.le_of_ble_eq_true rfl), (Nat.le_of_ble_eq_true rfl)⟩) hS (fun q _ h => hFc q h) hFc (fun r u t H1 locs ht hvm hw hB hz1 hk1 hS => ?_)
        rcases hw with ⟨rfl, hp_7⟩ | ⟨rfl, hp_8⟩
        · have hP := fz_keep hP hk1
          generalize H1 = H at hP hS ⊢
          have hP : va_P (dC, dI) vwCl [(h0, .inr (12, [.ref hd, .ref hse, .ref hki, .ref hma, .ref hst, .ref hsp, .ref hlp, .ref htl, .int 0, .int 0, .int 0, .int 0, .int 0, .int 0, .int 0, .long ((0 : Int32).toInt64)])), (hki, .inl (cK, 6, .inr (.inr (.inr (.inr fki)))))] H := hP
          have hD : va_D A [(h0, .inr (12, [.ref hd, .ref hse, .ref hki, .ref hma, .ref hst, .ref hsp, .ref hlp, .ref htl, .int 0, .int 0, .int 0, .int 0, .int 0, .int 0, .int 0, .long ((0 : Int32).toInt64)])), (hki, .inl (cK, 6, .inr (.inr (.inr (.inr fki)))))] := hD
          refine W.widen (k := 0) (n := 0) (Nat.le_of_ble_eq_true rfl) (Nat.le_of_ble_eq_true rfl) ?_
          refine lv_if_ne (tgt := 52) hx hb dX7_addBlocks_39 (by decide) (fun _ => ?_) (fun c_9 => absurd c_9 (by decide))
          refine lv_aload_n hx hb dX7_addBlocks_52 rfl (lv_at hl 0 rfl) ?_
          refine va_get (D := (dC, dI)) (ci := 12) (v := .int 0) (C := RX7) (T := TX7) (N := 16) hx hb hts (fun _ h9 => List.mem_cons_of_mem _ (List.mem_append_right _ (List.mem_append_right _ (List.mem_append_left _ h9)))) hown hK hP 0 rfl rfl 8 (by decide) (hts _ (List.mem_cons_of_mem _ (List.mem_append_left _ (List.mem_of_getElem? (i := 0) rfl)))) (fun _ h9 => h9) rfl dX7_addBlocks_53 ?_
          refine lv_aload_n hx hb dX7_addBlocks_56 rfl (lv_at hl 0 rfl) ?_
          refine va_get (D := (dC, dI)) (ci := 12) (v := .ref hki) (C := RX7) (T := TX7) (N := 16) hx hb hts (fun _ h9 => List.mem_cons_of_mem _ (List.mem_append_right _ (List.mem_append_right _ (List.mem_append_left _ h9)))) hown hK hP 0 rfl rfl 2 (by decide) (hts _ (List.mem_cons_of_mem _ (List.mem_append_left _ (List.mem_of_getElem? (i := 1) rfl)))) (fun _ h9 => h9) rfl dX7_addBlocks_57 ?_
          refine va_alen hx hb hK hP 1 0 rfl rfl (v := 6) rfl dX7_addBlocks_60 ?_
          refine lv_icmp_lt (tgt := 74) hx hb dX7_addBlocks_61 (by decide) (fun _ => ?_) (fun c_9 => absurd (by decide) c_9)
          refine lv_aload_n hx hb dX7_addBlocks_74 rfl (lv_at hl 0 rfl) ?_
          refine va_get (D := (dC, dI)) (ci := 12) (v := .ref hki) (C := RX7) (T := TX7) (N := 16) hx hb hts (fun _ h9 => List.mem_cons_of_mem _ (List.mem_append_right _ (List.mem_append_right _ (List.mem_append_left _ h9)))) hown hK hP 0 rfl rfl 2 (by decide) (hts _ (List.mem_cons_of_mem _ (List.mem_append_left _ (List.mem_of_getElem? (i := 1) rfl)))) (fun _ h9 => h9) rfl dX7_addBlocks_75 ?_
          refine lv_aload_n hx hb dX7_addBlocks_78 rfl (lv_at hl 0 rfl) ?_
          refine va_get (D := (dC, dI)) (ci := 12) (v := .int 0) (C := RX7) (T := TX7) (N := 16) hx hb hts (fun _ h9 => List.mem_cons_of_mem _ (List.mem_append_right _ (List.mem_append_right _ (List.mem_append_left _ h9)))) hown hK hP 0 rfl rfl 8 (by decide) (hts _ (List.mem_cons_of_mem _ (List.mem_append_left _ (List.mem_of_getElem? (i := 0) rfl)))) (fun _ h9 => h9) rfl dX7_addBlocks_79 ?_
          refine va_new (ci := 5) (fs := [.int 0, .int 0, .int 0, .int 0, .int 0]) (C := RX0) (T := TX0) (N := 5) hx hb hts (fun _ h9 => List.mem_cons_of_mem _ (List.mem_append_right _ (List.mem_append_right _ (List.mem_append_right _ (List.mem_append_left _ h9))))) tyX0 tyX0_ok hown (hts _ (List.mem_cons_of_mem _ (List.mem_append_left _ (List.mem_of_getElem? (i := 2) rfl)))) (hts _ (List.mem_cons_of_mem _ (List.mem_append_left _ (List.mem_of_getElem? (i := 3) rfl)))) (hts _ (List.mem_cons_of_mem _ (List.mem_append_left _ (List.mem_of_getElem? (i := 4) rfl)))) hK hP hD hS hA rfl (fun j hj => by rcases (show j = 0 ∨ j = 1 ∨ j = 2 ∨ j = 3 ∨ j = 4 by omega) with rfl | rfl | rfl | rfl | rfl <;> rfl) (Nat.le_of_ble_eq_true rfl) (Nat.le_of_ble_eq_true rfl) dX7_addBlocks_82 (fun q_9 H hP hD hS => ?_)
          have hP : va_P (dC, dI) vwCl [(h0, .inr (12, [.ref hd, .ref hse, .ref hki, .ref hma, .ref hst, .ref hsp, .ref hlp, .ref htl, .int 0, .int 0, .int 0, .int 0, .int 0, .int 0, .int 0, .long ((0 : Int32).toInt64)])), (hki, .inl (cK, 6, .inr (.inr (.inr (.inr fki))))), (q_9, .inr (5, [.int 0, .int 0, .int 0, .int 0, .int 0]))] H := hP
          have hD : va_D A [(h0, .inr (12, [.ref hd, .ref hse, .ref hki, .ref hma, .ref hst, .ref hsp, .ref hlp, .ref htl, .int 0, .int 0, .int 0, .int 0, .int 0, .int 0, .int 0, .long ((0 : Int32).toInt64)])), (hki, .inl (cK, 6, .inr (.inr (.inr (.inr fki))))), (q_9, .inr (5, [.int 0, .int 0, .int 0, .int 0, .int 0]))] := hD
          refine W.widen (k := 1) (n := 5) (Nat.le_of_ble_eq_true rfl) (Nat.le_of_ble_eq_true rfl) ?_
          refine lv_dup hx hb dX7_addBlocks_85 rfl ?_
          refine lv_iload_n hx hb dX7_addBlocks_86 rfl (lv_at hl 1 rfl) ?_
          refine lv_iload_n hx hb dX7_addBlocks_87 rfl (lv_at hl 2 rfl) ?_
          refine lv_iload_n hx hb dX7_addBlocks_88 rfl (lv_at hl 3 rfl) ?_
          refine lv_iload hx hb dX7_addBlocks_89 (lv_at hl 4 rfl) ?_
          refine lv_iload hx hb dX7_addBlocks_91 (lv_at hl 5 rfl) ?_
          have hPc := hP.sub (ws' := [(q_9, .inr (5, [.int 0, .int 0, .int 0, .int 0, .int 0]))]) [2] rfl
          have hDc := hD.sub (ws' := [(q_9, .inr (5, [.int 0, .int 0, .int 0, .int 0, .int 0]))]) [2] (by decide) rfl
          have hKc := hK.sub (tys' := []) [] rfl
          have hFc := va_free (wc := [(q_9, .inr (5, [.int 0, .int 0, .int 0, .int 0, .int 0]))]) hD hS hA [2] rfl
          refine va_callv (va_runI (As := [.int p0, .int p1, .int p2, .int p3, .int b4]) (rest := [.ref q_9, .int 0, .ref hki]) ⟨hx, hb, hml, hown, hts⟩ (c_X0_init l dC dI e0 q_9 p0 p1 p2 p3 b4 H.size h_b4) (cwI 5 hts (goodIn_sub (fun _ h9 => List.mem_cons_of_mem _ (List.mem_append_right _ (List.mem_append_right _ (List.mem_append_right _ (List.mem_append_right _ (List.mem_append_left _ h9)))))) (by decide +kernel)) rfl rfl rfl (hts _ (List.mem_cons_of_mem _ (List.mem_append_left _ (List.mem_of_getElem? (i := 4) rfl)))) (hts _ (List.mem_cons_of_mem _ (List.mem_append_left _ (List.mem_of_getElem? (i := 5) rfl)))) (hts _ (List.mem_cons_of_mem _ (List.mem_append_left _ (List.mem_of_getElem? (i := 6) rfl)))) rfl (by decide +kernel) ⟨(Nat.le_of_ble_eq_true rfl), (Nat.le_of_ble_eq_true rfl)⟩) ⟨fz_blind, fz_pre hPc hKc hDc hAm hS hFc⟩ rfl rfl hl.1 rfl (lv_room (Nat.le_of_ble_eq_true rfl)) dX7_addBlocks_93 ⟨(Nat.le_of_ble_eq_true rfl), (Nat.le_of_ble_eq_true rfl)⟩) hS (fun q _ h => hFc q h) hFc (fun u t H1 locs ht hvm hw hB hz1 hk1 hS => ?_)
          obtain ⟨hP1, hK1, hD1⟩ := hB
          rw [ht] at hP1
          have hK1 := va_K.moved hvm.symm hK1
          obtain ⟨hP, hD⟩ := va_join (wr := [(h0, .inr (12, [.ref hd, .ref hse, .ref hki, .ref hma, .ref hst, .ref hsp, .ref hlp, .ref htl, .int 0, .int 0, .int 0, .int 0, .int 0, .int 0, .int 0, .long ((0 : Int32).toInt64)])), (hki, .inl (cK, 6, .inr (.inr (.inr (.inr fki)))))]) (w1 := [(q_9, .inr (5, [.int p0, .int p1, .int p3, .int b4, .int p2]))]) hP hD [2] [0, 1] rfl rfl (by decide) (by decide) hk1 hFc hP1 hD1
          generalize H1 = H at hP hS ⊢
          have hP : va_P (dC, dI) vwCl [(h0, .inr (12, [.ref hd, .ref hse, .ref hki, .ref hma, .ref hst, .ref hsp, .ref hlp, .ref htl, .int 0, .int 0, .int 0, .int 0, .int 0, .int 0, .int 0, .long ((0 : Int32).toInt64)])), (hki, .inl (cK, 6, .inr (.inr (.inr (.inr fki))))), (q_9, .inr (5, [.int p0, .int p1, .int p3, .int b4, .int p2]))] H := hP
          have hD : va_D A [(h0, .inr (12, [.ref hd, .ref hse, .ref hki, .ref hma, .ref hst, .ref hsp, .ref hlp, .ref htl, .int 0, .int 0, .int 0, .int 0, .int 0, .int 0, .int 0, .long ((0 : Int32).toInt64)])), (hki, .inl (cK, 6, .inr (.inr (.inr (.inr fki))))), (q_9, .inr (5, [.int p0, .int p1, .int p3, .int b4, .int p2]))] := hD
          have hK : va_K (dC, dI) vwCl [(cK, .object RX0)] s := hK
          refine W.widen (k := 1) (n := 5) (Nat.le_of_ble_eq_true rfl) (Nat.le_of_ble_eq_true rfl) ?_
          refine va_astq hx hb hK hP hD hS 1 0 2 5 rfl rfl rfl rfl (fz_il (by decide)) dX7_addBlocks_96 (fun H locs hP hD hS => ?_)
          have hP : va_P (dC, dI) vwCl [(h0, .inr (12, [.ref hd, .ref hse, .ref hki, .ref hma, .ref hst, .ref hsp, .ref hlp, .ref htl, .int 0, .int 0, .int 0, .int 0, .int 0, .int 0, .int 0, .long ((0 : Int32).toInt64)])), (hki, .inl (cK, 6, .inr (.inr (.inr (.inr (va_up fki (0 : Int32).toNatClampNeg (some q_9))))))), (q_9, .inr (5, [.int p0, .int p1, .int p3, .int b4, .int p2]))] H := hP
          have hD : va_D A [(h0, .inr (12, [.ref hd, .ref hse, .ref hki, .ref hma, .ref hst, .ref hsp, .ref hlp, .ref htl, .int 0, .int 0, .int 0, .int 0, .int 0, .int 0, .int 0, .long ((0 : Int32).toInt64)])), (hki, .inl (cK, 6, .inr (.inr (.inr (.inr (va_up fki (0 : Int32).toNatClampNeg (some q_9))))))), (q_9, .inr (5, [.int p0, .int p1, .int p3, .int b4, .int p2]))] := hD
          refine lv_aload_n hx hb dX7_addBlocks_97 rfl (lv_at hl 0 rfl) ?_
          refine lv_dup hx hb dX7_addBlocks_98 rfl ?_
          refine va_get (D := (dC, dI)) (ci := 12) (v := .int 0) (C := RX7) (T := TX7) (N := 16) hx hb hts (fun _ h9 => List.mem_cons_of_mem _ (List.mem_append_right _ (List.mem_append_right _ (List.mem_append_left _ h9)))) hown hK hP 0 rfl rfl 8 (by decide) (hts _ (List.mem_cons_of_mem _ (List.mem_append_left _ (List.mem_of_getElem? (i := 0) rfl)))) (fun _ h9 => h9) rfl dX7_addBlocks_99 ?_
          refine lv_dup_x1 hx hb dX7_addBlocks_102 rfl rfl ?_
          refine lv_iconst (v := 1) hx hb dX7_addBlocks_103 (by decide) ?_
          refine lv_iadd hx hb dX7_addBlocks_104 ?_
          refine lv_topi (fun z_9 e_9 => ?_)
          obtain rfl : 1 = z_9 := (e_9.trans (by decide)).symm
          refine va_put (D := (dC, dI)) (ci := 12) (v := .int 1) (ty := .int) (C := RX7) (T := TX7) (N := 16) hx hb hts (fun _ h9 => List.mem_cons_of_mem _ (List.mem_append_right _ (List.mem_append_right _ (List.mem_append_left _ h9)))) tyX7 tyX7_ok nmX7 hown hK hP hD hS 0 rfl rfl 8 (by decide) (hts _ (List.mem_cons_of_mem _ (List.mem_append_left _ (List.mem_of_getElem? (i := 0) rfl)))) (fun _ h9 => h9) rfl (by decide +kernel) rfl rfl (Nat.le_of_ble_eq_true rfl) dX7_addBlocks_105 (fun H locs hP hD hS => ?_)
          have hP : va_P (dC, dI) vwCl [(h0, .inr (12, [.ref hd, .ref hse, .ref hki, .ref hma, .ref hst, .ref hsp, .ref hlp, .ref htl, .int 1, .int 0, .int 0, .int 0, .int 0, .int 0, .int 0, .long ((0 : Int32).toInt64)])), (hki, .inl (cK, 6, .inr (.inr (.inr (.inr (va_up fki (0 : Int32).toNatClampNeg (some q_9))))))), (q_9, .inr (5, [.int p0, .int p1, .int p3, .int b4, .int p2]))] H := hP
          have hD : va_D A [(h0, .inr (12, [.ref hd, .ref hse, .ref hki, .ref hma, .ref hst, .ref hsp, .ref hlp, .ref htl, .int 1, .int 0, .int 0, .int 0, .int 0, .int 0, .int 0, .long ((0 : Int32).toInt64)])), (hki, .inl (cK, 6, .inr (.inr (.inr (.inr (va_up fki (0 : Int32).toNatClampNeg (some q_9))))))), (q_9, .inr (5, [.int p0, .int p1, .int p3, .int b4, .int p2]))] := hD
          refine W.widen (k := 1) (n := 6) (Nat.le_of_ble_eq_true rfl) (Nat.le_of_ble_eq_true rfl) ?_
          refine vx_ret ?_
          exact W.iret (v := 0) hx hb hr (fun t ht hW => ⟨⟨0, (), rfl, ⟨rfl, (q_c_X7_addBlocks_0 hp_1 hp_3 hp_5 hp_7)⟩, trivial⟩, hS.F ht⟩) hS.2.2 dX7_addBlocks_108
        · have hP := fz_keep hP hk1
          generalize H1 = H at hP hS ⊢
          have hP : va_P (dC, dI) vwCl [(h0, .inr (12, [.ref hd, .ref hse, .ref hki, .ref hma, .ref hst, .ref hsp, .ref hlp, .ref htl, .int 0, .int 0, .int 0, .int 0, .int 0, .int 0, .int 0, .long ((0 : Int32).toInt64)])), (hki, .inl (cK, 6, .inr (.inr (.inr (.inr fki)))))] H := hP
          have hD : va_D A [(h0, .inr (12, [.ref hd, .ref hse, .ref hki, .ref hma, .ref hst, .ref hsp, .ref hlp, .ref htl, .int 0, .int 0, .int 0, .int 0, .int 0, .int 0, .int 0, .long ((0 : Int32).toInt64)])), (hki, .inl (cK, 6, .inr (.inr (.inr (.inr fki)))))] := hD
          refine W.widen (k := 0) (n := 0) (Nat.le_of_ble_eq_true rfl) (Nat.le_of_ble_eq_true rfl) ?_
          refine lv_if_ne (tgt := 52) hx hb dX7_addBlocks_39 (by decide) (fun c_9 => absurd (by decide) c_9) (fun _ => ?_)
          obtain ⟨sa_9, hst_9⟩ := hAm.1.2.2.2.2.2.1 _ fz_s_87
          have hq_9 : ∀ w ∈ fz_w_IllegalArgument, w.before _ s = true := fun w h9 => hts w (List.mem_cons_of_mem _ (List.mem_append_right _ (List.mem_append_right _ (List.mem_append_right _ (List.mem_append_right _ (List.mem_append_right _ h9))))))
          exact vx_throwS (cls := "java/lang/IllegalArgumentException") (text := "a number is out of range") (names := ["java/lang/RuntimeException", "java/lang/Exception"]) (ik := 85) (is := 87) (ic := 89) (sa := sa_9) hx hb hlT hown (by decide +kernel) fz_nm_IllegalArgument (hq_9 _ List.mem_cons_self) (hq_9 _ (List.mem_cons_of_mem _ List.mem_cons_self)) hst_9 (fz_wf (ik := 0) hq_9 (fun _ h9 => List.mem_cons_of_mem _ (List.mem_cons_of_mem _ h9)) fz_ng_IllegalArgument (hAm.1.2.1 _ fz_x_IllegalArgument) hAm.1) fz_ot_IllegalArgument hAm.2.1 hAm.2.2.1 hS (hl.1.trans hml.symm) dX7_addBlocks_42 dX7_addBlocks_45 dX7_addBlocks_46 dX7_addBlocks_48 dX7_addBlocks_51 (fun x h9 => (htab x h9).elim) (by decide) (by decide) (Nat.le_of_ble_eq_true rfl) (Nat.le_of_ble_eq_true rfl) hlocks (fun t _ h1_9 h2_9 => ⟨(), trivial, ⟨rfl, (q_c_X7_addBlocks_1 hp_1 hp_3 hp_5 hp_8)⟩, fz_xF hS h1_9 h2_9⟩) hS.2.2 (Nat.le_of_ble_eq_true rfl) (Nat.le_of_ble_eq_true rfl)
      · have hP := fz_keep hP hk1
        generalize H1 = H at hP hS ⊢
        have hP : va_P (dC, dI) vwCl [(h0, .inr (12, [.ref hd, .ref hse, .ref hki, .ref hma, .ref hst, .ref hsp, .ref hlp, .ref htl, .int 0, .int 0, .int 0, .int 0, .int 0, .int 0, .int 0, .long ((0 : Int32).toInt64)])), (hki, .inl (cK, 6, .inr (.inr (.inr (.inr fki)))))] H := hP
        have hD : va_D A [(h0, .inr (12, [.ref hd, .ref hse, .ref hki, .ref hma, .ref hst, .ref hsp, .ref hlp, .ref htl, .int 0, .int 0, .int 0, .int 0, .int 0, .int 0, .int 0, .long ((0 : Int32).toInt64)])), (hki, .inl (cK, 6, .inr (.inr (.inr (.inr fki)))))] := hD
        refine W.widen (k := 0) (n := 0) (Nat.le_of_ble_eq_true rfl) (Nat.le_of_ble_eq_true rfl) ?_
        refine lv_if_eq (tgt := 42) hx hb dX7_addBlocks_27 (by decide) (fun _ => ?_) (fun c_9 => absurd (by decide) c_9)
        obtain ⟨sa_9, hst_9⟩ := hAm.1.2.2.2.2.2.1 _ fz_s_87
        have hq_9 : ∀ w ∈ fz_w_IllegalArgument, w.before _ s = true := fun w h9 => hts w (List.mem_cons_of_mem _ (List.mem_append_right _ (List.mem_append_right _ (List.mem_append_right _ (List.mem_append_right _ (List.mem_append_right _ h9))))))
        exact vx_throwS (cls := "java/lang/IllegalArgumentException") (text := "a number is out of range") (names := ["java/lang/RuntimeException", "java/lang/Exception"]) (ik := 85) (is := 87) (ic := 89) (sa := sa_9) hx hb hlT hown (by decide +kernel) fz_nm_IllegalArgument (hq_9 _ List.mem_cons_self) (hq_9 _ (List.mem_cons_of_mem _ List.mem_cons_self)) hst_9 (fz_wf (ik := 0) hq_9 (fun _ h9 => List.mem_cons_of_mem _ (List.mem_cons_of_mem _ h9)) fz_ng_IllegalArgument (hAm.1.2.1 _ fz_x_IllegalArgument) hAm.1) fz_ot_IllegalArgument hAm.2.1 hAm.2.2.1 hS (hl.1.trans hml.symm) dX7_addBlocks_42 dX7_addBlocks_45 dX7_addBlocks_46 dX7_addBlocks_48 dX7_addBlocks_51 (fun x h9 => (htab x h9).elim) (by decide) (by decide) (Nat.le_of_ble_eq_true rfl) (Nat.le_of_ble_eq_true rfl) hlocks (fun t _ h1_9 h2_9 => ⟨(), trivial, ⟨rfl, (q_c_X7_addBlocks_2 hp_1 hp_3 hp_6)⟩, fz_xF hS h1_9 h2_9⟩) hS.2.2 (Nat.le_of_ble_eq_true rfl) (Nat.le_of_ble_eq_true rfl)
    · have hP := fz_keep hP hk1
      generalize H1 = H at hP hS ⊢
      have hP : va_P (dC, dI) vwCl [(h0, .inr (12, [.ref hd, .ref hse, .ref hki, .ref hma, .ref hst, .ref hsp, .ref hlp, .ref htl, .int 0, .int 0, .int 0, .int 0, .int 0, .int 0, .int 0, .long ((0 : Int32).toInt64)])), (hki, .inl (cK, 6, .inr (.inr (.inr (.inr fki)))))] H := hP
      have hD : va_D A [(h0, .inr (12, [.ref hd, .ref hse, .ref hki, .ref hma, .ref hst, .ref hsp, .ref hlp, .ref htl, .int 0, .int 0, .int 0, .int 0, .int 0, .int 0, .int 0, .long ((0 : Int32).toInt64)])), (hki, .inl (cK, 6, .inr (.inr (.inr (.inr fki)))))] := hD
      refine W.widen (k := 0) (n := 0) (Nat.le_of_ble_eq_true rfl) (Nat.le_of_ble_eq_true rfl) ?_
      refine lv_if_eq (tgt := 42) hx hb dX7_addBlocks_17 (by decide) (fun _ => ?_) (fun c_9 => absurd (by decide) c_9)
      obtain ⟨sa_9, hst_9⟩ := hAm.1.2.2.2.2.2.1 _ fz_s_87
      have hq_9 : ∀ w ∈ fz_w_IllegalArgument, w.before _ s = true := fun w h9 => hts w (List.mem_cons_of_mem _ (List.mem_append_right _ (List.mem_append_right _ (List.mem_append_right _ (List.mem_append_right _ (List.mem_append_right _ h9))))))
      exact vx_throwS (cls := "java/lang/IllegalArgumentException") (text := "a number is out of range") (names := ["java/lang/RuntimeException", "java/lang/Exception"]) (ik := 85) (is := 87) (ic := 89) (sa := sa_9) hx hb hlT hown (by decide +kernel) fz_nm_IllegalArgument (hq_9 _ List.mem_cons_self) (hq_9 _ (List.mem_cons_of_mem _ List.mem_cons_self)) hst_9 (fz_wf (ik := 0) hq_9 (fun _ h9 => List.mem_cons_of_mem _ (List.mem_cons_of_mem _ h9)) fz_ng_IllegalArgument (hAm.1.2.1 _ fz_x_IllegalArgument) hAm.1) fz_ot_IllegalArgument hAm.2.1 hAm.2.2.1 hS (hl.1.trans hml.symm) dX7_addBlocks_42 dX7_addBlocks_45 dX7_addBlocks_46 dX7_addBlocks_48 dX7_addBlocks_51 (fun x h9 => (htab x h9).elim) (by decide) (by decide) (Nat.le_of_ble_eq_true rfl) (Nat.le_of_ble_eq_true rfl) hlocks (fun t _ h1_9 h2_9 => ⟨(), trivial, ⟨rfl, (q_c_X7_addBlocks_3 hp_1 hp_4)⟩, fz_xF hS h1_9 h2_9⟩) hS.2.2 (Nat.le_of_ble_eq_true rfl) (Nat.le_of_ble_eq_true rfl)
  · have hP := fz_keep hP hk1
    generalize H1 = H at hP hS ⊢
    have hP : va_P (dC, dI) vwCl [(h0, .inr (12, [.ref hd, .ref hse, .ref hki, .ref hma, .ref hst, .ref hsp, .ref hlp, .ref htl, .int 0, .int 0, .int 0, .int 0, .int 0, .int 0, .int 0, .long ((0 : Int32).toInt64)])), (hki, .inl (cK, 6, .inr (.inr (.inr (.inr fki)))))] H := hP
    have hD : va_D A [(h0, .inr (12, [.ref hd, .ref hse, .ref hki, .ref hma, .ref hst, .ref hsp, .ref hlp, .ref htl, .int 0, .int 0, .int 0, .int 0, .int 0, .int 0, .int 0, .long ((0 : Int32).toInt64)])), (hki, .inl (cK, 6, .inr (.inr (.inr (.inr fki)))))] := hD
    refine W.widen (k := 0) (n := 0) (Nat.le_of_ble_eq_true rfl) (Nat.le_of_ble_eq_true rfl) ?_
    refine lv_if_eq (tgt := 42) hx hb dX7_addBlocks_7 (by decide) (fun _ => ?_) (fun c_9 => absurd (by decide) c_9)
    obtain ⟨sa_9, hst_9⟩ := hAm.1.2.2.2.2.2.1 _ fz_s_87
    have hq_9 : ∀ w ∈ fz_w_IllegalArgument, w.before _ s = true := fun w h9 => hts w (List.mem_cons_of_mem _ (List.mem_append_right _ (List.mem_append_right _ (List.mem_append_right _ (List.mem_append_right _ (List.mem_append_right _ h9))))))
    exact vx_throwS (cls := "java/lang/IllegalArgumentException") (text := "a number is out of range") (names := ["java/lang/RuntimeException", "java/lang/Exception"]) (ik := 85) (is := 87) (ic := 89) (sa := sa_9) hx hb hlT hown (by decide +kernel) fz_nm_IllegalArgument (hq_9 _ List.mem_cons_self) (hq_9 _ (List.mem_cons_of_mem _ List.mem_cons_self)) hst_9 (fz_wf (ik := 0) hq_9 (fun _ h9 => List.mem_cons_of_mem _ (List.mem_cons_of_mem _ h9)) fz_ng_IllegalArgument (hAm.1.2.1 _ fz_x_IllegalArgument) hAm.1) fz_ot_IllegalArgument hAm.2.1 hAm.2.2.1 hS (hl.1.trans hml.symm) dX7_addBlocks_42 dX7_addBlocks_45 dX7_addBlocks_46 dX7_addBlocks_48 dX7_addBlocks_51 (fun x h9 => (htab x h9).elim) (by decide) (by decide) (Nat.le_of_ble_eq_true rfl) (Nat.le_of_ble_eq_true rfl) hlocks (fun t _ h1_9 h2_9 => ⟨(), trivial, ⟨rfl, (q_c_X7_addBlocks_4 hp_2)⟩, fz_xF hS h1_9 h2_9⟩) hS.2.2 (Nat.le_of_ble_eq_true rfl) (Nat.le_of_ble_eq_true rfl)
def v_c_X7_blocks : List Cond := .code yX7_blocks cX7_blocks 3 (some .int) :: ([] ++ (wsV RX7 213 RX7 yX7_kindAt v_c_X7_kindAt ++ (fz_w_IndexOutOfBounds)))
set_option maxRecDepth 20000 in
theorem i_c_X7_blocks : ∀ w ∈ v_c_X7_blocks, w ∈ lw_tbl := List.forall_mem_cons.mpr ⟨List.mem_of_getElem? (i := 753) (by decide +kernel), List.forall_mem_append.mpr ⟨fun _ h => absurd h List.not_mem_nil, List.forall_mem_append.mpr ⟨(by unfold wsV; exact List.forall_mem_append.mpr ⟨List.forall_mem_cons.mpr ⟨List.mem_of_getElem? (i := 754) (by decide +kernel), List.forall_mem_cons.mpr ⟨List.mem_of_getElem? (i := 756) (by decide +kernel), List.forall_mem_cons.mpr ⟨List.mem_of_getElem? (i := 20) (by decide +kernel), List.forall_mem_cons.mpr ⟨List.mem_of_getElem? (i := 49) (by decide +kernel), fun _ h => absurd h List.not_mem_nil⟩⟩⟩⟩, i_c_X7_kindAt⟩), fz_wi_IndexOutOfBounds⟩⟩⟩
set_option maxHeartbeats 4000000 in
set_option maxRecDepth 100000 in
theorem c_X7_blocks (l : Launch) (dC : Nat → ClassId) (dI : Nat → Nat → Nat) (e0 : Nat) (hlT : l.stackTraces = false) (h0 : Nat) (p0 : Int32) (hd hse hki hma hst hsp hlp htl : Nat) (sz : Nat) : vx_Met l yX7_blocks v_c_X7_blocks ({ frames := 7, cells := 1, slots := 6, locals := 100 }) (fz_P (dC, dI) e0 [(h0, .inr (12, [.ref hd, .ref hse, .ref hki, .ref hma, .ref hst, .ref hsp, .ref hlp, .ref htl, .int 0, .int 0, .int 0, .int 0, .int 0, .int 0, .int 0, .long ((0 : Int32).toInt64)]))] [] sz (fun q : Nat => sz ≤ q) [.ref h0, .int p0]) (va_Qi (fun (r : Int32) (u : Unit) => False) (fun (u : Unit) (t : State) => True) (fun q : Nat => sz ≤ q)) (vx_X (fun _ : Unit => True) (fun (E : String) (_ : Unit) (_ : State) => (E = "java/lang/IndexOutOfBoundsException")) (fun q : Nat => sz ≤ q)) 1 6 (fun q : Nat => sz ≤ q) := by
  refine vx_ofW (cc := cX7_blocks) (maxL := 3) (ret := (some .int)) (by decide) rfl ?_
  intro p e s m args below meth c s₁ B hml htab hv
  obtain ⟨rfl, hsz, hP, hK, hD0, hAm⟩ := hv
  have hx := B.exec
  have hb := B.bytes
  have hr := B.returns
  have hts := atoms_spec (ws := v_c_X7_blocks) B.pre
  have hown : s.vm.findClass RX7 = some m.cls := findClass_of_methodNamed B.named
  have hlocks := B.notSynchronized
  subst hsz
  have hD := hD0
  generalize hAe : (fun q : Nat => s.heap.size ≤ q) = A at hAm ⊢
  have hA : ∀ q : Nat, s.heap.size ≤ q → A q := fun q h => by rw [← hAe]; exact h
  have hS : va_S A s.heap s.heap [] := va_S.rf
  have hP : va_P (dC, dI) vwCl [(h0, .inr (12, [.ref hd, .ref hse, .ref hki, .ref hma, .ref hst, .ref hsp, .ref hlp, .ref htl, .int 0, .int 0, .int 0, .int 0, .int 0, .int 0, .int 0, .long ((0 : Int32).toInt64)]))] s.heap := hP
  have hl := lv_entry ([.ref h0, .int p0]) (n := 3) (Nat.le_of_ble_eq_true rfl)
  rw [lg_entry_eq]
  generalize (lg_sl ([.ref h0, .int p0]) ++ List.replicate (3 - (lg_sl ([.ref h0, .int p0])).length) Slot.unset).toArray = ls at hl ⊢
  have hl : lv_has ls 3 [(0, .ref h0), (1, .int p0)] := hl
  refine lv_aload_n hx hb dX7_blocks_0 rfl (lv_at hl 0 rfl) ?_
  refine lv_iload_n hx hb dX7_blocks_1 rfl (lv_at hl 1 rfl) ?_
  have hPc := hP.sub (ws' := [(h0, .inr (12, [.ref hd, .ref hse, .ref hki, .ref hma, .ref hst, .ref hsp, .ref hlp, .ref htl, .int 0, .int 0, .int 0, .int 0, .int 0, .int 0, .int 0, .long ((0 : Int32).toInt64)]))]) [0] rfl
  have hDc := hD.sub (ws' := [(h0, .inr (12, [.ref hd, .ref hse, .ref hki, .ref hma, .ref hst, .ref hsp, .ref hlp, .ref htl, .int 0, .int 0, .int 0, .int 0, .int 0, .int 0, .int 0, .long ((0 : Int32).toInt64)]))]) [0] (by decide) rfl
  have hKc := hK.sub (tys' := []) [] rfl
  have hFc : ∀ q : Nat, s.heap.size ≤ q → A q := fun q h => hA q (Nat.le_trans hS.1 h)
  refine va_callq (va_runV (As := [.int p0]) (rest := []) ⟨hx, hb, hml, hown, hts⟩ (c_X7_kindAt l dC dI e0 h0 p0 hd hse hki hma hst hsp hlp htl s.heap.size) (cwV 1 hts (goodIn_sub (fun _ h9 => List.mem_cons_of_mem _ (List.mem_append_right _ (List.mem_append_left _ h9))) (by decide +kernel)) rfl rfl rfl (by decide +kernel) ⟨(Nat.le_of_ble_eq_true rfl), (Nat.le_of_ble_eq_true rfl)⟩) ⟨fz_blind, va_recv hKc hPc (ci := 12) (q0 := 0) rfl rfl, fz_pre hPc hKc hDc hAm hS hFc⟩ rfl rfl hl.1 rfl (lv_room (Nat.le_of_ble_eq_true rfl)) dX7_blocks_2 ⟨(Nat.le_of_ble_eq_true rfl), (Nat.le_of_ble_eq_true rfl)⟩) hS (fun q _ h => hFc q h) hFc (fun r u t H1 locs ht hvm hw hB hz1 hk1 hS => ?_)
  obtain rfl := hw
  have hP := fz_keep hP hk1
  generalize H1 = H at hP hS ⊢
  have hP : va_P (dC, dI) vwCl [(h0, .inr (12, [.ref hd, .ref hse, .ref hki, .ref hma, .ref hst, .ref hsp, .ref hlp, .ref htl, .int 0, .int 0, .int 0, .int 0, .int 0, .int 0, .int 0, .long ((0 : Int32).toInt64)]))] H := hP
  refine W.widen (k := 0) (n := 0) (Nat.le_of_ble_eq_true rfl) (Nat.le_of_ble_eq_true rfl) ?_
  refine lv_astore_nN (lv' := [(2, .null), (0, .ref h0), (1, .int p0)]) hx hb dX7_blocks_5 rfl hl (by decide) rfl (fun ls hl => ?_)
  refine lv_aload_nN hx hb dX7_blocks_6 rfl (lv_at hl 0 rfl) ?_
  refine lv_ifnonnullN hx hb dX7_blocks_7 ?_
  obtain ⟨sa_9, hst_9⟩ := hAm.1.2.2.2.2.2.1 _ fz_s_217
  have hq_9 : ∀ w ∈ fz_w_IndexOutOfBounds, w.before _ s = true := fun w h9 => hts w (List.mem_cons_of_mem _ (List.mem_append_right _ (List.mem_append_right _ h9)))
  exact vx_throwS (cls := "java/lang/IndexOutOfBoundsException") (text := "there is no such kind") (names := ["java/lang/RuntimeException", "java/lang/Exception"]) (ik := 123) (is := 217) (ic := 127) (sa := sa_9) hx hb hlT hown (by decide +kernel) fz_nm_IndexOutOfBounds (hq_9 _ List.mem_cons_self) (hq_9 _ (List.mem_cons_of_mem _ List.mem_cons_self)) hst_9 (fz_wf (ik := 0) hq_9 (fun _ h9 => List.mem_cons_of_mem _ (List.mem_cons_of_mem _ h9)) fz_ng_IndexOutOfBounds (hAm.1.2.1 _ fz_x_IndexOutOfBounds) hAm.1) fz_ot_IndexOutOfBounds hAm.2.1 hAm.2.2.1 hS (hl.1.trans hml.symm) dX7_blocks_10 dX7_blocks_13 dX7_blocks_14 dX7_blocks_16 dX7_blocks_19 (fun x h9 => (htab x h9).elim) (by decide) (by decide) (Nat.le_of_ble_eq_true rfl) (Nat.le_of_ble_eq_true rfl) hlocks (fun t _ h1_9 h2_9 => ⟨(), trivial, rfl, fz_xF hS h1_9 h2_9⟩) hS.2.2 (Nat.le_of_ble_eq_true rfl) (Nat.le_of_ble_eq_true rfl)
def v_c_X7_readyOn : List Cond := .code yX7_readyOn cX7_readyOn 3 (some .int) :: ([] ++ (wsV RX7 269 RX7 yX7_stoneAt v_c_X7_stoneAt ++ (fz_w_IndexOutOfBounds)))
set_option maxRecDepth 20000 in
theorem i_c_X7_readyOn : ∀ w ∈ v_c_X7_readyOn, w ∈ lw_tbl := List.forall_mem_cons.mpr ⟨List.mem_of_getElem? (i := 1135) (by decide +kernel), List.forall_mem_append.mpr ⟨fun _ h => absurd h List.not_mem_nil, List.forall_mem_append.mpr ⟨(by unfold wsV; exact List.forall_mem_append.mpr ⟨List.forall_mem_cons.mpr ⟨List.mem_of_getElem? (i := 313) (by decide +kernel), List.forall_mem_cons.mpr ⟨List.mem_of_getElem? (i := 315) (by decide +kernel), List.forall_mem_cons.mpr ⟨List.mem_of_getElem? (i := 3) (by decide +kernel), List.forall_mem_cons.mpr ⟨List.mem_of_getElem? (i := 49) (by decide +kernel), fun _ h => absurd h List.not_mem_nil⟩⟩⟩⟩, i_c_X7_stoneAt⟩), fz_wi_IndexOutOfBounds⟩⟩⟩
set_option maxHeartbeats 4000000 in
set_option maxRecDepth 100000 in
theorem c_X7_readyOn (l : Launch) (dC : Nat → ClassId) (dI : Nat → Nat → Nat) (e0 : Nat) (hlT : l.stackTraces = false) (h0 : Nat) (p0 : Int32) (hd hse hki hma hst hsp hlp htl : Nat) (sz : Nat) : vx_Met l yX7_readyOn v_c_X7_readyOn ({ frames := 7, cells := 1, slots := 6, locals := 100 }) (fz_P (dC, dI) e0 [(h0, .inr (12, [.ref hd, .ref hse, .ref hki, .ref hma, .ref hst, .ref hsp, .ref hlp, .ref htl, .int 0, .int 0, .int 0, .int 0, .int 0, .int 0, .int 0, .long ((0 : Int32).toInt64)]))] [] sz (fun q : Nat => sz ≤ q) [.ref h0, .int p0]) (va_Qi (fun (r : Int32) (u : Unit) => False) (fun (u : Unit) (t : State) => True) (fun q : Nat => sz ≤ q)) (vx_X (fun _ : Unit => True) (fun (E : String) (_ : Unit) (_ : State) => (E = "java/lang/IndexOutOfBoundsException")) (fun q : Nat => sz ≤ q)) 1 6 (fun q : Nat => sz ≤ q) := by
  refine vx_ofW (cc := cX7_readyOn) (maxL := 3) (ret := (some .int)) (by decide) rfl ?_
  intro p e s m args below meth c s₁ B hml htab hv
  obtain ⟨rfl, hsz, hP, hK, hD0, hAm⟩ := hv
  have hx := B.exec
  have hb := B.bytes
  have hr := B.returns
  have hts := atoms_spec (ws := v_c_X7_readyOn) B.pre
  have hown : s.vm.findClass RX7 = some m.cls := findClass_of_methodNamed B.named
  have hlocks := B.notSynchronized
  subst hsz
  have hD := hD0
  generalize hAe : (fun q : Nat => s.heap.size ≤ q) = A at hAm ⊢
  have hA : ∀ q : Nat, s.heap.size ≤ q → A q := fun q h => by rw [← hAe]; exact h
  have hS : va_S A s.heap s.heap [] := va_S.rf
  have hP : va_P (dC, dI) vwCl [(h0, .inr (12, [.ref hd, .ref hse, .ref hki, .ref hma, .ref hst, .ref hsp, .ref hlp, .ref htl, .int 0, .int 0, .int 0, .int 0, .int 0, .int 0, .int 0, .long ((0 : Int32).toInt64)]))] s.heap := hP
  have hl := lv_entry ([.ref h0, .int p0]) (n := 3) (Nat.le_of_ble_eq_true rfl)
  rw [lg_entry_eq]
  generalize (lg_sl ([.ref h0, .int p0]) ++ List.replicate (3 - (lg_sl ([.ref h0, .int p0])).length) Slot.unset).toArray = ls at hl ⊢
  have hl : lv_has ls 3 [(0, .ref h0), (1, .int p0)] := hl
  refine lv_aload_n hx hb dX7_readyOn_0 rfl (lv_at hl 0 rfl) ?_
  refine lv_iload_n hx hb dX7_readyOn_1 rfl (lv_at hl 1 rfl) ?_
  have hPc := hP.sub (ws' := [(h0, .inr (12, [.ref hd, .ref hse, .ref hki, .ref hma, .ref hst, .ref hsp, .ref hlp, .ref htl, .int 0, .int 0, .int 0, .int 0, .int 0, .int 0, .int 0, .long ((0 : Int32).toInt64)]))]) [0] rfl
  have hDc := hD.sub (ws' := [(h0, .inr (12, [.ref hd, .ref hse, .ref hki, .ref hma, .ref hst, .ref hsp, .ref hlp, .ref htl, .int 0, .int 0, .int 0, .int 0, .int 0, .int 0, .int 0, .long ((0 : Int32).toInt64)]))]) [0] (by decide) rfl
  have hKc := hK.sub (tys' := []) [] rfl
  have hFc : ∀ q : Nat, s.heap.size ≤ q → A q := fun q h => hA q (Nat.le_trans hS.1 h)
  refine va_callq (va_runV (As := [.int p0]) (rest := []) ⟨hx, hb, hml, hown, hts⟩ (c_X7_stoneAt l dC dI e0 h0 p0 hd hse hki hma hst hsp hlp htl s.heap.size) (cwV 1 hts (goodIn_sub (fun _ h9 => List.mem_cons_of_mem _ (List.mem_append_right _ (List.mem_append_left _ h9))) (by decide +kernel)) rfl rfl rfl (by decide +kernel) ⟨(Nat.le_of_ble_eq_true rfl), (Nat.le_of_ble_eq_true rfl)⟩) ⟨fz_blind, va_recv hKc hPc (ci := 12) (q0 := 0) rfl rfl, fz_pre hPc hKc hDc hAm hS hFc⟩ rfl rfl hl.1 rfl (lv_room (Nat.le_of_ble_eq_true rfl)) dX7_readyOn_2 ⟨(Nat.le_of_ble_eq_true rfl), (Nat.le_of_ble_eq_true rfl)⟩) hS (fun q _ h => hFc q h) hFc (fun r u t H1 locs ht hvm hw hB hz1 hk1 hS => ?_)
  obtain rfl := hw
  have hP := fz_keep hP hk1
  generalize H1 = H at hP hS ⊢
  have hP : va_P (dC, dI) vwCl [(h0, .inr (12, [.ref hd, .ref hse, .ref hki, .ref hma, .ref hst, .ref hsp, .ref hlp, .ref htl, .int 0, .int 0, .int 0, .int 0, .int 0, .int 0, .int 0, .long ((0 : Int32).toInt64)]))] H := hP
  refine W.widen (k := 0) (n := 0) (Nat.le_of_ble_eq_true rfl) (Nat.le_of_ble_eq_true rfl) ?_
  refine lv_astore_nN (lv' := [(2, .null), (0, .ref h0), (1, .int p0)]) hx hb dX7_readyOn_5 rfl hl (by decide) rfl (fun ls hl => ?_)
  refine lv_aload_nN hx hb dX7_readyOn_6 rfl (lv_at hl 0 rfl) ?_
  refine lv_ifnonnullN hx hb dX7_readyOn_7 ?_
  obtain ⟨sa_9, hst_9⟩ := hAm.1.2.2.2.2.2.1 _ fz_s_273
  have hq_9 : ∀ w ∈ fz_w_IndexOutOfBounds, w.before _ s = true := fun w h9 => hts w (List.mem_cons_of_mem _ (List.mem_append_right _ (List.mem_append_right _ h9)))
  exact vx_throwSW (cls := "java/lang/IndexOutOfBoundsException") (text := "there is no such stone") (names := ["java/lang/RuntimeException", "java/lang/Exception"]) (ik := 123) (is := 273) (ic := 127) (sa := sa_9) hx hb hlT hown (by decide +kernel) fz_nm_IndexOutOfBounds (hq_9 _ List.mem_cons_self) (hq_9 _ (List.mem_cons_of_mem _ List.mem_cons_self)) hst_9 (fz_wf (ik := 0) hq_9 (fun _ h9 => List.mem_cons_of_mem _ (List.mem_cons_of_mem _ h9)) fz_ng_IndexOutOfBounds (hAm.1.2.1 _ fz_x_IndexOutOfBounds) hAm.1) fz_ot_IndexOutOfBounds hAm.2.1 hAm.2.2.1 hS (hl.1.trans hml.symm) dX7_readyOn_10 dX7_readyOn_13 dX7_readyOn_14 dX7_readyOn_17 dX7_readyOn_20 (fun x h9 => (htab x h9).elim) (by decide) (by decide) (Nat.le_of_ble_eq_true rfl) (Nat.le_of_ble_eq_true rfl) hlocks (fun t _ h1_9 h2_9 => ⟨(), trivial, rfl, fz_xF hS h1_9 h2_9⟩) hS.2.2 (Nat.le_of_ble_eq_true rfl) (Nat.le_of_ble_eq_true rfl)
def v_c_X7_mark : List Cond := .code yX7_mark cX7_mark 3 (some .int) :: ([] ++ (wsV RX7 269 RX7 yX7_stoneAt v_c_X7_stoneAt ++ (fz_w_IndexOutOfBounds)))
set_option maxRecDepth 20000 in
theorem i_c_X7_mark : ∀ w ∈ v_c_X7_mark, w ∈ lw_tbl := List.forall_mem_cons.mpr ⟨List.mem_of_getElem? (i := 1154) (by decide +kernel), List.forall_mem_append.mpr ⟨fun _ h => absurd h List.not_mem_nil, List.forall_mem_append.mpr ⟨(by unfold wsV; exact List.forall_mem_append.mpr ⟨List.forall_mem_cons.mpr ⟨List.mem_of_getElem? (i := 313) (by decide +kernel), List.forall_mem_cons.mpr ⟨List.mem_of_getElem? (i := 315) (by decide +kernel), List.forall_mem_cons.mpr ⟨List.mem_of_getElem? (i := 3) (by decide +kernel), List.forall_mem_cons.mpr ⟨List.mem_of_getElem? (i := 49) (by decide +kernel), fun _ h => absurd h List.not_mem_nil⟩⟩⟩⟩, i_c_X7_stoneAt⟩), fz_wi_IndexOutOfBounds⟩⟩⟩
set_option maxHeartbeats 4000000 in
set_option maxRecDepth 100000 in
theorem c_X7_mark (l : Launch) (dC : Nat → ClassId) (dI : Nat → Nat → Nat) (e0 : Nat) (hlT : l.stackTraces = false) (h0 : Nat) (p0 : Int32) (hd hse hki hma hst hsp hlp htl : Nat) (sz : Nat) : vx_Met l yX7_mark v_c_X7_mark ({ frames := 7, cells := 1, slots := 6, locals := 100 }) (fz_P (dC, dI) e0 [(h0, .inr (12, [.ref hd, .ref hse, .ref hki, .ref hma, .ref hst, .ref hsp, .ref hlp, .ref htl, .int 0, .int 0, .int 0, .int 0, .int 0, .int 0, .int 0, .long ((0 : Int32).toInt64)]))] [] sz (fun q : Nat => sz ≤ q) [.ref h0, .int p0]) (va_Qi (fun (r : Int32) (u : Unit) => False) (fun (u : Unit) (t : State) => True) (fun q : Nat => sz ≤ q)) (vx_X (fun _ : Unit => True) (fun (E : String) (_ : Unit) (_ : State) => (E = "java/lang/IndexOutOfBoundsException")) (fun q : Nat => sz ≤ q)) 1 6 (fun q : Nat => sz ≤ q) := by
  refine vx_ofW (cc := cX7_mark) (maxL := 3) (ret := (some .int)) (by decide) rfl ?_
  intro p e s m args below meth c s₁ B hml htab hv
  obtain ⟨rfl, hsz, hP, hK, hD0, hAm⟩ := hv
  have hx := B.exec
  have hb := B.bytes
  have hr := B.returns
  have hts := atoms_spec (ws := v_c_X7_mark) B.pre
  have hown : s.vm.findClass RX7 = some m.cls := findClass_of_methodNamed B.named
  have hlocks := B.notSynchronized
  subst hsz
  have hD := hD0
  generalize hAe : (fun q : Nat => s.heap.size ≤ q) = A at hAm ⊢
  have hA : ∀ q : Nat, s.heap.size ≤ q → A q := fun q h => by rw [← hAe]; exact h
  have hS : va_S A s.heap s.heap [] := va_S.rf
  have hP : va_P (dC, dI) vwCl [(h0, .inr (12, [.ref hd, .ref hse, .ref hki, .ref hma, .ref hst, .ref hsp, .ref hlp, .ref htl, .int 0, .int 0, .int 0, .int 0, .int 0, .int 0, .int 0, .long ((0 : Int32).toInt64)]))] s.heap := hP
  have hl := lv_entry ([.ref h0, .int p0]) (n := 3) (Nat.le_of_ble_eq_true rfl)
  rw [lg_entry_eq]
  generalize (lg_sl ([.ref h0, .int p0]) ++ List.replicate (3 - (lg_sl ([.ref h0, .int p0])).length) Slot.unset).toArray = ls at hl ⊢
  have hl : lv_has ls 3 [(0, .ref h0), (1, .int p0)] := hl
  refine lv_aload_n hx hb dX7_mark_0 rfl (lv_at hl 0 rfl) ?_
  refine lv_iload_n hx hb dX7_mark_1 rfl (lv_at hl 1 rfl) ?_
  have hPc := hP.sub (ws' := [(h0, .inr (12, [.ref hd, .ref hse, .ref hki, .ref hma, .ref hst, .ref hsp, .ref hlp, .ref htl, .int 0, .int 0, .int 0, .int 0, .int 0, .int 0, .int 0, .long ((0 : Int32).toInt64)]))]) [0] rfl
  have hDc := hD.sub (ws' := [(h0, .inr (12, [.ref hd, .ref hse, .ref hki, .ref hma, .ref hst, .ref hsp, .ref hlp, .ref htl, .int 0, .int 0, .int 0, .int 0, .int 0, .int 0, .int 0, .long ((0 : Int32).toInt64)]))]) [0] (by decide) rfl
  have hKc := hK.sub (tys' := []) [] rfl
  have hFc : ∀ q : Nat, s.heap.size ≤ q → A q := fun q h => hA q (Nat.le_trans hS.1 h)
  refine va_callq (va_runV (As := [.int p0]) (rest := []) ⟨hx, hb, hml, hown, hts⟩ (c_X7_stoneAt l dC dI e0 h0 p0 hd hse hki hma hst hsp hlp htl s.heap.size) (cwV 1 hts (goodIn_sub (fun _ h9 => List.mem_cons_of_mem _ (List.mem_append_right _ (List.mem_append_left _ h9))) (by decide +kernel)) rfl rfl rfl (by decide +kernel) ⟨(Nat.le_of_ble_eq_true rfl), (Nat.le_of_ble_eq_true rfl)⟩) ⟨fz_blind, va_recv hKc hPc (ci := 12) (q0 := 0) rfl rfl, fz_pre hPc hKc hDc hAm hS hFc⟩ rfl rfl hl.1 rfl (lv_room (Nat.le_of_ble_eq_true rfl)) dX7_mark_2 ⟨(Nat.le_of_ble_eq_true rfl), (Nat.le_of_ble_eq_true rfl)⟩) hS (fun q _ h => hFc q h) hFc (fun r u t H1 locs ht hvm hw hB hz1 hk1 hS => ?_)
  obtain rfl := hw
  have hP := fz_keep hP hk1
  generalize H1 = H at hP hS ⊢
  have hP : va_P (dC, dI) vwCl [(h0, .inr (12, [.ref hd, .ref hse, .ref hki, .ref hma, .ref hst, .ref hsp, .ref hlp, .ref htl, .int 0, .int 0, .int 0, .int 0, .int 0, .int 0, .int 0, .long ((0 : Int32).toInt64)]))] H := hP
  refine W.widen (k := 0) (n := 0) (Nat.le_of_ble_eq_true rfl) (Nat.le_of_ble_eq_true rfl) ?_
  refine lv_astore_nN (lv' := [(2, .null), (0, .ref h0), (1, .int p0)]) hx hb dX7_mark_5 rfl hl (by decide) rfl (fun ls hl => ?_)
  refine lv_aload_nN hx hb dX7_mark_6 rfl (lv_at hl 0 rfl) ?_
  refine lv_ifnonnullN hx hb dX7_mark_7 ?_
  obtain ⟨sa_9, hst_9⟩ := hAm.1.2.2.2.2.2.1 _ fz_s_273
  have hq_9 : ∀ w ∈ fz_w_IndexOutOfBounds, w.before _ s = true := fun w h9 => hts w (List.mem_cons_of_mem _ (List.mem_append_right _ (List.mem_append_right _ h9)))
  exact vx_throwSW (cls := "java/lang/IndexOutOfBoundsException") (text := "there is no such stone") (names := ["java/lang/RuntimeException", "java/lang/Exception"]) (ik := 123) (is := 273) (ic := 127) (sa := sa_9) hx hb hlT hown (by decide +kernel) fz_nm_IndexOutOfBounds (hq_9 _ List.mem_cons_self) (hq_9 _ (List.mem_cons_of_mem _ List.mem_cons_self)) hst_9 (fz_wf (ik := 0) hq_9 (fun _ h9 => List.mem_cons_of_mem _ (List.mem_cons_of_mem _ h9)) fz_ng_IndexOutOfBounds (hAm.1.2.1 _ fz_x_IndexOutOfBounds) hAm.1) fz_ot_IndexOutOfBounds hAm.2.1 hAm.2.2.1 hS (hl.1.trans hml.symm) dX7_mark_10 dX7_mark_13 dX7_mark_14 dX7_mark_17 dX7_mark_20 (fun x h9 => (htab x h9).elim) (by decide) (by decide) (Nat.le_of_ble_eq_true rfl) (Nat.le_of_ble_eq_true rfl) hlocks (fun t _ h1_9 h2_9 => ⟨(), trivial, rfl, fz_xF hS h1_9 h2_9⟩) hS.2.2 (Nat.le_of_ble_eq_true rfl) (Nat.le_of_ble_eq_true rfl)
def v_c_X7_stateOf : List Cond := .code yX7_stateOf cX7_stateOf 3 (some .char) :: ([] ++ (wsV RX7 269 RX7 yX7_stoneAt v_c_X7_stoneAt ++ (fz_w_IndexOutOfBounds)))
set_option maxRecDepth 20000 in
theorem i_c_X7_stateOf : ∀ w ∈ v_c_X7_stateOf, w ∈ lw_tbl := List.forall_mem_cons.mpr ⟨List.mem_of_getElem? (i := 1143) (by decide +kernel), List.forall_mem_append.mpr ⟨fun _ h => absurd h List.not_mem_nil, List.forall_mem_append.mpr ⟨(by unfold wsV; exact List.forall_mem_append.mpr ⟨List.forall_mem_cons.mpr ⟨List.mem_of_getElem? (i := 313) (by decide +kernel), List.forall_mem_cons.mpr ⟨List.mem_of_getElem? (i := 315) (by decide +kernel), List.forall_mem_cons.mpr ⟨List.mem_of_getElem? (i := 3) (by decide +kernel), List.forall_mem_cons.mpr ⟨List.mem_of_getElem? (i := 49) (by decide +kernel), fun _ h => absurd h List.not_mem_nil⟩⟩⟩⟩, i_c_X7_stoneAt⟩), fz_wi_IndexOutOfBounds⟩⟩⟩
set_option maxHeartbeats 4000000 in
set_option maxRecDepth 100000 in
theorem c_X7_stateOf (l : Launch) (dC : Nat → ClassId) (dI : Nat → Nat → Nat) (e0 : Nat) (hlT : l.stackTraces = false) (h0 : Nat) (p0 : Int32) (hd hse hki hma hst hsp hlp htl : Nat) (sz : Nat) : vx_Met l yX7_stateOf v_c_X7_stateOf ({ frames := 7, cells := 1, slots := 6, locals := 100 }) (fz_P (dC, dI) e0 [(h0, .inr (12, [.ref hd, .ref hse, .ref hki, .ref hma, .ref hst, .ref hsp, .ref hlp, .ref htl, .int 0, .int 0, .int 0, .int 0, .int 0, .int 0, .int 0, .long ((0 : Int32).toInt64)]))] [] sz (fun q : Nat => sz ≤ q) [.ref h0, .int p0]) (va_Qi (fun (r : Int32) (u : Unit) => False) (fun (u : Unit) (t : State) => True) (fun q : Nat => sz ≤ q)) (vx_X (fun _ : Unit => True) (fun (E : String) (_ : Unit) (_ : State) => (E = "java/lang/IndexOutOfBoundsException")) (fun q : Nat => sz ≤ q)) 1 6 (fun q : Nat => sz ≤ q) := by
  refine vx_ofW (cc := cX7_stateOf) (maxL := 3) (ret := (some .char)) (by decide) rfl ?_
  intro p e s m args below meth c s₁ B hml htab hv
  obtain ⟨rfl, hsz, hP, hK, hD0, hAm⟩ := hv
  have hx := B.exec
  have hb := B.bytes
  have hr := B.returns
  have hts := atoms_spec (ws := v_c_X7_stateOf) B.pre
  have hown : s.vm.findClass RX7 = some m.cls := findClass_of_methodNamed B.named
  have hlocks := B.notSynchronized
  subst hsz
  have hD := hD0
  generalize hAe : (fun q : Nat => s.heap.size ≤ q) = A at hAm ⊢
  have hA : ∀ q : Nat, s.heap.size ≤ q → A q := fun q h => by rw [← hAe]; exact h
  have hS : va_S A s.heap s.heap [] := va_S.rf
  have hP : va_P (dC, dI) vwCl [(h0, .inr (12, [.ref hd, .ref hse, .ref hki, .ref hma, .ref hst, .ref hsp, .ref hlp, .ref htl, .int 0, .int 0, .int 0, .int 0, .int 0, .int 0, .int 0, .long ((0 : Int32).toInt64)]))] s.heap := hP
  have hl := lv_entry ([.ref h0, .int p0]) (n := 3) (Nat.le_of_ble_eq_true rfl)
  rw [lg_entry_eq]
  generalize (lg_sl ([.ref h0, .int p0]) ++ List.replicate (3 - (lg_sl ([.ref h0, .int p0])).length) Slot.unset).toArray = ls at hl ⊢
  have hl : lv_has ls 3 [(0, .ref h0), (1, .int p0)] := hl
  refine lv_aload_n hx hb dX7_stateOf_0 rfl (lv_at hl 0 rfl) ?_
  refine lv_iload_n hx hb dX7_stateOf_1 rfl (lv_at hl 1 rfl) ?_
  have hPc := hP.sub (ws' := [(h0, .inr (12, [.ref hd, .ref hse, .ref hki, .ref hma, .ref hst, .ref hsp, .ref hlp, .ref htl, .int 0, .int 0, .int 0, .int 0, .int 0, .int 0, .int 0, .long ((0 : Int32).toInt64)]))]) [0] rfl
  have hDc := hD.sub (ws' := [(h0, .inr (12, [.ref hd, .ref hse, .ref hki, .ref hma, .ref hst, .ref hsp, .ref hlp, .ref htl, .int 0, .int 0, .int 0, .int 0, .int 0, .int 0, .int 0, .long ((0 : Int32).toInt64)]))]) [0] (by decide) rfl
  have hKc := hK.sub (tys' := []) [] rfl
  have hFc : ∀ q : Nat, s.heap.size ≤ q → A q := fun q h => hA q (Nat.le_trans hS.1 h)
  refine va_callq (va_runV (As := [.int p0]) (rest := []) ⟨hx, hb, hml, hown, hts⟩ (c_X7_stoneAt l dC dI e0 h0 p0 hd hse hki hma hst hsp hlp htl s.heap.size) (cwV 1 hts (goodIn_sub (fun _ h9 => List.mem_cons_of_mem _ (List.mem_append_right _ (List.mem_append_left _ h9))) (by decide +kernel)) rfl rfl rfl (by decide +kernel) ⟨(Nat.le_of_ble_eq_true rfl), (Nat.le_of_ble_eq_true rfl)⟩) ⟨fz_blind, va_recv hKc hPc (ci := 12) (q0 := 0) rfl rfl, fz_pre hPc hKc hDc hAm hS hFc⟩ rfl rfl hl.1 rfl (lv_room (Nat.le_of_ble_eq_true rfl)) dX7_stateOf_2 ⟨(Nat.le_of_ble_eq_true rfl), (Nat.le_of_ble_eq_true rfl)⟩) hS (fun q _ h => hFc q h) hFc (fun r u t H1 locs ht hvm hw hB hz1 hk1 hS => ?_)
  obtain rfl := hw
  have hP := fz_keep hP hk1
  generalize H1 = H at hP hS ⊢
  have hP : va_P (dC, dI) vwCl [(h0, .inr (12, [.ref hd, .ref hse, .ref hki, .ref hma, .ref hst, .ref hsp, .ref hlp, .ref htl, .int 0, .int 0, .int 0, .int 0, .int 0, .int 0, .int 0, .long ((0 : Int32).toInt64)]))] H := hP
  refine W.widen (k := 0) (n := 0) (Nat.le_of_ble_eq_true rfl) (Nat.le_of_ble_eq_true rfl) ?_
  refine lv_astore_nN (lv' := [(2, .null), (0, .ref h0), (1, .int p0)]) hx hb dX7_stateOf_5 rfl hl (by decide) rfl (fun ls hl => ?_)
  refine lv_aload_nN hx hb dX7_stateOf_6 rfl (lv_at hl 0 rfl) ?_
  refine lv_ifnonnullN hx hb dX7_stateOf_7 ?_
  obtain ⟨sa_9, hst_9⟩ := hAm.1.2.2.2.2.2.1 _ fz_s_273
  have hq_9 : ∀ w ∈ fz_w_IndexOutOfBounds, w.before _ s = true := fun w h9 => hts w (List.mem_cons_of_mem _ (List.mem_append_right _ (List.mem_append_right _ h9)))
  exact vx_throwSW (cls := "java/lang/IndexOutOfBoundsException") (text := "there is no such stone") (names := ["java/lang/RuntimeException", "java/lang/Exception"]) (ik := 123) (is := 273) (ic := 127) (sa := sa_9) hx hb hlT hown (by decide +kernel) fz_nm_IndexOutOfBounds (hq_9 _ List.mem_cons_self) (hq_9 _ (List.mem_cons_of_mem _ List.mem_cons_self)) hst_9 (fz_wf (ik := 0) hq_9 (fun _ h9 => List.mem_cons_of_mem _ (List.mem_cons_of_mem _ h9)) fz_ng_IndexOutOfBounds (hAm.1.2.1 _ fz_x_IndexOutOfBounds) hAm.1) fz_ot_IndexOutOfBounds hAm.2.1 hAm.2.2.1 hS (hl.1.trans hml.symm) dX7_stateOf_10 dX7_stateOf_13 dX7_stateOf_14 dX7_stateOf_17 dX7_stateOf_20 (fun x h9 => (htab x h9).elim) (by decide) (by decide) (Nat.le_of_ble_eq_true rfl) (Nat.le_of_ble_eq_true rfl) hlocks (fun t _ h1_9 h2_9 => ⟨(), trivial, rfl, fz_xF hS h1_9 h2_9⟩) hS.2.2 (Nat.le_of_ble_eq_true rfl) (Nat.le_of_ble_eq_true rfl)
def v_c_X7_bestBlock : List Cond := .code yX7_bestBlock cX7_bestBlock 7 (some .int) :: ([.fieldLink RX7 10 "VoussoirYard" "drawing" "LVoussoirYard$Drawing;"] ++ (wsX70 ++ (wsV RX7 222 RX1 yX1_quadOf v_c_X1_quadOf ++ (fz_w_IndexOutOfBounds))))
set_option maxRecDepth 20000 in
theorem i_c_X7_bestBlock : ∀ w ∈ v_c_X7_bestBlock, w ∈ lw_tbl := List.forall_mem_cons.mpr ⟨List.mem_of_getElem? (i := 765) (by decide +kernel), List.forall_mem_append.mpr ⟨List.forall_mem_cons.mpr ⟨List.mem_of_getElem? (i := 219) (by decide +kernel), fun _ h => absurd h List.not_mem_nil⟩, List.forall_mem_append.mpr ⟨inX7, List.forall_mem_append.mpr ⟨(by unfold wsV; exact List.forall_mem_append.mpr ⟨List.forall_mem_cons.mpr ⟨List.mem_of_getElem? (i := 367) (by decide +kernel), List.forall_mem_cons.mpr ⟨List.mem_of_getElem? (i := 342) (by decide +kernel), List.forall_mem_cons.mpr ⟨List.mem_of_getElem? (i := 343) (by decide +kernel), List.forall_mem_cons.mpr ⟨List.mem_of_getElem? (i := 50) (by decide +kernel), fun _ h => absurd h List.not_mem_nil⟩⟩⟩⟩, i_c_X1_quadOf⟩), fz_wi_IndexOutOfBounds⟩⟩⟩⟩
set_option maxHeartbeats 4000000 in
set_option maxRecDepth 100000 in
theorem c_X7_bestBlock (l : Launch) (dC : Nat → ClassId) (dI : Nat → Nat → Nat) (e0 : Nat) (hlT : l.stackTraces = false) (h0 : Nat) (p0 : Int32) (hd hse hki hma hst hsp hlp htl hj hpr hqd : Nat) (sz : Nat) : vx_Met l yX7_bestBlock v_c_X7_bestBlock ({ frames := 7, cells := 1, slots := 6, locals := 100 }) (fz_P (dC, dI) e0 [(h0, .inr (12, [.ref hd, .ref hse, .ref hki, .ref hma, .ref hst, .ref hsp, .ref hlp, .ref htl, .int 0, .int 0, .int 0, .int 0, .int 0, .int 0, .int 0, .long ((0 : Int32).toInt64)])), (hd, .inr (6, [.ref hj, .ref hpr, .ref hqd, .int 0, .int 0, .int 1]))] [] sz (fun q : Nat => sz ≤ q) [.ref h0, .int p0]) (va_Qi (fun (r : Int32) (u : Unit) => False) (fun (u : Unit) (t : State) => True) (fun q : Nat => sz ≤ q)) (vx_X (fun _ : Unit => True) (fun (E : String) (_ : Unit) (_ : State) => (E = "java/lang/IndexOutOfBoundsException")) (fun q : Nat => sz ≤ q)) 1 6 (fun q : Nat => sz ≤ q) := by
  refine vx_ofW (cc := cX7_bestBlock) (maxL := 7) (ret := (some .int)) (by decide) rfl ?_
  intro p e s m args below meth c s₁ B hml htab hv
  obtain ⟨rfl, hsz, hP, hK, hD0, hAm⟩ := hv
  have hx := B.exec
  have hb := B.bytes
  have hr := B.returns
  have hts := atoms_spec (ws := v_c_X7_bestBlock) B.pre
  have hown : s.vm.findClass RX7 = some m.cls := findClass_of_methodNamed B.named
  have hlocks := B.notSynchronized
  subst hsz
  have hD := hD0
  generalize hAe : (fun q : Nat => s.heap.size ≤ q) = A at hAm ⊢
  have hA : ∀ q : Nat, s.heap.size ≤ q → A q := fun q h => by rw [← hAe]; exact h
  have hS : va_S A s.heap s.heap [] := va_S.rf
  have hP : va_P (dC, dI) vwCl [(h0, .inr (12, [.ref hd, .ref hse, .ref hki, .ref hma, .ref hst, .ref hsp, .ref hlp, .ref htl, .int 0, .int 0, .int 0, .int 0, .int 0, .int 0, .int 0, .long ((0 : Int32).toInt64)])), (hd, .inr (6, [.ref hj, .ref hpr, .ref hqd, .int 0, .int 0, .int 1]))] s.heap := hP
  have hl := lv_entry ([.ref h0, .int p0]) (n := 7) (Nat.le_of_ble_eq_true rfl)
  rw [lg_entry_eq]
  generalize (lg_sl ([.ref h0, .int p0]) ++ List.replicate (7 - (lg_sl ([.ref h0, .int p0])).length) Slot.unset).toArray = ls at hl ⊢
  have hl : lv_has ls 7 [(0, .ref h0), (1, .int p0)] := hl
  refine lv_aload_n hx hb dX7_bestBlock_0 rfl (lv_at hl 0 rfl) ?_
  refine va_get (D := (dC, dI)) (ci := 12) (v := .ref hd) (C := RX7) (T := TX7) (N := 16) hx hb hts (fun _ h9 => List.mem_cons_of_mem _ (List.mem_append_right _ (List.mem_append_left _ h9))) hown hK hP 0 rfl rfl 0 (by decide) (hts _ (List.mem_cons_of_mem _ (List.mem_append_left _ (List.mem_of_getElem? (i := 0) rfl)))) (fun _ h9 => h9) rfl dX7_bestBlock_1 ?_
  refine lv_iload_n hx hb dX7_bestBlock_4 rfl (lv_at hl 1 rfl) ?_
  have hPc := hP.sub (ws' := [(hd, .inr (6, [.ref hj, .ref hpr, .ref hqd, .int 0, .int 0, .int 1]))]) [1] rfl
  have hDc := hD.sub (ws' := [(hd, .inr (6, [.ref hj, .ref hpr, .ref hqd, .int 0, .int 0, .int 1]))]) [1] (by decide) rfl
  have hKc := hK.sub (tys' := []) [] rfl
  have hFc : ∀ q : Nat, s.heap.size ≤ q → A q := fun q h => hA q (Nat.le_trans hS.1 h)
  refine va_callq (va_runV (As := [.int p0]) (rest := []) ⟨hx, hb, hml, hown, hts⟩ (c_X1_quadOf l dC dI e0 hd p0 hj hpr hqd s.heap.size) (cwV 1 hts (goodIn_sub (fun _ h9 => List.mem_cons_of_mem _ (List.mem_append_right _ (List.mem_append_right _ (List.mem_append_left _ h9)))) (by decide +kernel)) rfl rfl rfl (by decide +kernel) ⟨(Nat.le_of_ble_eq_true rfl), (Nat.le_of_ble_eq_true rfl)⟩) ⟨fz_blind, va_recv hKc hPc (ci := 6) (q0 := 0) rfl rfl, fz_pre hPc hKc hDc hAm hS hFc⟩ rfl rfl hl.1 rfl (lv_room (Nat.le_of_ble_eq_true rfl)) dX7_bestBlock_5 ⟨(Nat.le_of_ble_eq_true rfl), (Nat.le_of_ble_eq_true rfl)⟩) hS (fun q _ h => hFc q h) hFc (fun r u t H1 locs ht hvm hw hB hz1 hk1 hS => ?_)
  obtain rfl := hw
  have hP := fz_keep hP hk1
  generalize H1 = H at hP hS ⊢
  have hP : va_P (dC, dI) vwCl [(h0, .inr (12, [.ref hd, .ref hse, .ref hki, .ref hma, .ref hst, .ref hsp, .ref hlp, .ref htl, .int 0, .int 0, .int 0, .int 0, .int 0, .int 0, .int 0, .long ((0 : Int32).toInt64)])), (hd, .inr (6, [.ref hj, .ref hpr, .ref hqd, .int 0, .int 0, .int 1]))] H := hP
  refine W.widen (k := 0) (n := 0) (Nat.le_of_ble_eq_true rfl) (Nat.le_of_ble_eq_true rfl) ?_
  refine lv_astore_nN (lv' := [(2, .null), (0, .ref h0), (1, .int p0)]) hx hb dX7_bestBlock_8 rfl hl (by decide) rfl (fun ls hl => ?_)
  refine lv_aload_nN hx hb dX7_bestBlock_9 rfl (lv_at hl 0 rfl) ?_
  refine lv_ifnonnullN hx hb dX7_bestBlock_10 ?_
  obtain ⟨sa_9, hst_9⟩ := hAm.1.2.2.2.2.2.1 _ fz_s_151
  have hq_9 : ∀ w ∈ fz_w_IndexOutOfBounds, w.before _ s = true := fun w h9 => hts w (List.mem_cons_of_mem _ (List.mem_append_right _ (List.mem_append_right _ (List.mem_append_right _ h9))))
  exact vx_throwS (cls := "java/lang/IndexOutOfBoundsException") (text := "there is no such place") (names := ["java/lang/RuntimeException", "java/lang/Exception"]) (ik := 123) (is := 151) (ic := 127) (sa := sa_9) hx hb hlT hown (by decide +kernel) fz_nm_IndexOutOfBounds (hq_9 _ List.mem_cons_self) (hq_9 _ (List.mem_cons_of_mem _ List.mem_cons_self)) hst_9 (fz_wf (ik := 0) hq_9 (fun _ h9 => List.mem_cons_of_mem _ (List.mem_cons_of_mem _ h9)) fz_ng_IndexOutOfBounds (hAm.1.2.1 _ fz_x_IndexOutOfBounds) hAm.1) fz_ot_IndexOutOfBounds hAm.2.1 hAm.2.2.1 hS (hl.1.trans hml.symm) dX7_bestBlock_13 dX7_bestBlock_16 dX7_bestBlock_17 dX7_bestBlock_19 dX7_bestBlock_22 (fun x h9 => (htab x h9).elim) (by decide) (by decide) (Nat.le_of_ble_eq_true rfl) (Nat.le_of_ble_eq_true rfl) hlocks (fun t _ h1_9 h2_9 => ⟨(), trivial, rfl, fz_xF hS h1_9 h2_9⟩) hS.2.2 (Nat.le_of_ble_eq_true rfl) (Nat.le_of_ble_eq_true rfl)
def v_c_X7_addMason : List Cond := .code yX7_addMason cX7_addMason 3 (some .int) :: ([.fieldLink RX7 55 "VoussoirYard" "masonCount" "I", .fieldLink RX7 31 "VoussoirYard" "masons" "[LVoussoirYard$Mason;", .classLink RX7 29 RX3, .instantiable RX3 5, .initialized RX3, .methodLink RX7 237 yX3_init, .instanceMethod yX3_init] ++ (wsS RX7 205 yX7_isBetween v_c_X7_isBetween ++ (wsX70 ++ (wsX30 ++ (v_c_X3_init ++ (fz_w_IllegalArgument))))))
set_option maxRecDepth 20000 in
theorem i_c_X7_addMason : ∀ w ∈ v_c_X7_addMason, w ∈ lw_tbl := List.forall_mem_cons.mpr ⟨List.mem_of_getElem? (i := 793) (by decide +kernel), List.forall_mem_append.mpr ⟨List.forall_mem_cons.mpr ⟨List.mem_of_getElem? (i := 228) (by decide +kernel), List.forall_mem_cons.mpr ⟨List.mem_of_getElem? (i := 222) (by decide +kernel), List.forall_mem_cons.mpr ⟨List.mem_of_getElem? (i := 215) (by decide +kernel), List.forall_mem_cons.mpr ⟨List.mem_of_getElem? (i := 795) (by decide +kernel), List.forall_mem_cons.mpr ⟨List.mem_of_getElem? (i := 77) (by decide +kernel), List.forall_mem_cons.mpr ⟨List.mem_of_getElem? (i := 796) (by decide +kernel), List.forall_mem_cons.mpr ⟨List.mem_of_getElem? (i := 797) (by decide +kernel), fun _ h => absurd h List.not_mem_nil⟩⟩⟩⟩⟩⟩⟩, List.forall_mem_append.mpr ⟨(by unfold wsS; exact List.forall_mem_append.mpr ⟨List.forall_mem_cons.mpr ⟨List.mem_of_getElem? (i := 720) (by decide +kernel), List.forall_mem_cons.mpr ⟨List.mem_of_getElem? (i := 721) (by decide +kernel), List.forall_mem_cons.mpr ⟨List.mem_of_getElem? (i := 49) (by decide +kernel), fun _ h => absurd h List.not_mem_nil⟩⟩⟩, i_c_X7_isBetween⟩), List.forall_mem_append.mpr ⟨inX7, List.forall_mem_append.mpr ⟨inX3, List.forall_mem_append.mpr ⟨i_c_X3_init, fz_wi_IllegalArgument⟩⟩⟩⟩⟩⟩
theorem q_c_X7_addMason_0 {p0 p1 : Int32} (hp_1 : fz_in p0 1 99) (hp_3 : fz_in p1 0 9) : (fz_in p0 1 99 ∧ fz_in p1 0 9) := by
  first | assumption | (simp_all [fz_in, fz_v]; done) | (simp only [fz_in, fz_v] at *; grind)
theorem q_c_X7_addMason_1 {p0 p1 : Int32} (hp_1 : fz_in p0 1 99) (hp_4 : ¬ fz_in p1 0 9) : ¬ (fz_in p0 1 99 ∧ fz_in p1 0 9) := by
  first | assumption | (simp_all [fz_in, fz_v]; done) | (simp only [fz_in, fz_v] at *; grind)
theorem q_c_X7_addMason_2 {p0 p1 : Int32} (hp_2 : ¬ fz_in p0 1 99) : ¬ (fz_in p0 1 99 ∧ fz_in p1 0 9) := by
  first | assumption | (simp_all [fz_in, fz_v]; done) | (simp only [fz_in, fz_v] at *; grind)
set_option maxHeartbeats 4000000 in
set_option maxRecDepth 100000 in
theorem c_X7_addMason (l : Launch) (dC : Nat → ClassId) (dI : Nat → Nat → Nat) (e0 : Nat) (hlT : l.stackTraces = false) (h0 : Nat) (p0 p1 : Int32) (hd hse hki hma hst hsp hlp htl : Nat) (cM : ClassId) (fma : Nat → Option Nat) (sz : Nat) : vx_Met l yX7_addMason v_c_X7_addMason ({ frames := 7, cells := 1, slots := 6, locals := 100 }) (fz_P (dC, dI) e0 [(h0, .inr (12, [.ref hd, .ref hse, .ref hki, .ref hma, .ref hst, .ref hsp, .ref hlp, .ref htl, .int 0, .int 0, .int 0, .int 0, .int 0, .int 0, .int 0, .long ((0 : Int32).toInt64)])), (hma, .inl (cM, 4, .inr (.inr (.inr (.inr fma)))))] [(cM, .object RX3)] sz (va_A [(h0, .inr (12, [.ref hd, .ref hse, .ref hki, .ref hma, .ref hst, .ref hsp, .ref hlp, .ref htl, .int 0, .int 0, .int 0, .int 0, .int 0, .int 0, .int 0, .long ((0 : Int32).toInt64)])), (hma, .inl (cM, 4, .inr (.inr (.inr (.inr fma)))))] sz) [.ref h0, .int p0, .int p1]) (va_Qi (fun (r : Int32) (u : Unit) => r = 0 ∧ ((fz_in p0 1 99 ∧ fz_in p1 0 9))) (fun (u : Unit) (t : State) => True) (va_A [(h0, .inr (12, [.ref hd, .ref hse, .ref hki, .ref hma, .ref hst, .ref hsp, .ref hlp, .ref htl, .int 0, .int 0, .int 0, .int 0, .int 0, .int 0, .int 0, .long ((0 : Int32).toInt64)])), (hma, .inl (cM, 4, .inr (.inr (.inr (.inr fma)))))] sz)) (vx_X (fun _ : Unit => True) (fun (E : String) (_ : Unit) (_ : State) => (E = "java/lang/IllegalArgumentException" ∧ ¬ (fz_in p0 1 99 ∧ fz_in p1 0 9))) (va_A [(h0, .inr (12, [.ref hd, .ref hse, .ref hki, .ref hma, .ref hst, .ref hsp, .ref hlp, .ref htl, .int 0, .int 0, .int 0, .int 0, .int 0, .int 0, .int 0, .long ((0 : Int32).toInt64)])), (hma, .inl (cM, 4, .inr (.inr (.inr (.inr fma)))))] sz)) 1 6 (va_A [(h0, .inr (12, [.ref hd, .ref hse, .ref hki, .ref hma, .ref hst, .ref hsp, .ref hlp, .ref htl, .int 0, .int 0, .int 0, .int 0, .int 0, .int 0, .int 0, .long ((0 : Int32).toInt64)])), (hma, .inl (cM, 4, .inr (.inr (.inr (.inr fma)))))] sz) := by
  refine vx_ofW (cc := cX7_addMason) (maxL := 3) (ret := (some .int)) (by decide) rfl ?_
  intro p e s m args below meth c s₁ B hml htab hv
  obtain ⟨rfl, hsz, hP, hK, hD0, hAm⟩ := hv
  have hx := B.exec
  have hb := B.bytes
  have hr := B.returns
  have hts := atoms_spec (ws := v_c_X7_addMason) B.pre
  have hown : s.vm.findClass RX7 = some m.cls := findClass_of_methodNamed B.named
  have hlocks := B.notSynchronized
  subst hsz
  have hD := hD0.self (sz := s.heap.size)
  generalize hAe : va_A [(h0, .inr (12, [.ref hd, .ref hse, .ref hki, .ref hma, .ref hst, .ref hsp, .ref hlp, .ref htl, .int 0, .int 0, .int 0, .int 0, .int 0, .int 0, .int 0, .long ((0 : Int32).toInt64)])), (hma, .inl (cM, 4, .inr (.inr (.inr (.inr fma)))))] s.heap.size = A at hD hAm ⊢
  have hA : ∀ q : Nat, s.heap.size ≤ q → A q := fun q h => by rw [← hAe]; exact Or.inr h
  have hS : va_S A s.heap s.heap [] := va_S.rf
  have hP : va_P (dC, dI) vwCl [(h0, .inr (12, [.ref hd, .ref hse, .ref hki, .ref hma, .ref hst, .ref hsp, .ref hlp, .ref htl, .int 0, .int 0, .int 0, .int 0, .int 0, .int 0, .int 0, .long ((0 : Int32).toInt64)])), (hma, .inl (cM, 4, .inr (.inr (.inr (.inr fma)))))] s.heap := hP
  have hl := lv_entry ([.ref h0, .int p0, .int p1]) (n := 3) (Nat.le_of_ble_eq_true rfl)
  rw [lg_entry_eq]
  generalize (lg_sl ([.ref h0, .int p0, .int p1]) ++ List.replicate (3 - (lg_sl ([.ref h0, .int p0, .int p1])).length) Slot.unset).toArray = ls at hl ⊢
  have hl : lv_has ls 3 [(0, .ref h0), (1, .int p0), (2, .int p1)] := hl
  refine lv_iload_n hx hb dX7_addMason_0 rfl (lv_at hl 1 rfl) ?_
  refine lv_iconst (v := 1) hx hb dX7_addMason_1 (by decide) ?_
  refine lv_bipush (v := 99) hx hb dX7_addMason_2 (by decide) ?_
  have hPc := hP.sub (ws' := []) [] rfl
  have hDc := hD.sub (ws' := []) [] (by decide) rfl
  have hKc := hK.sub (tys' := []) [] rfl
  have hFc : ∀ q : Nat, s.heap.size ≤ q → A q := fun q h => hA q (Nat.le_trans hS.1 h)
  refine va_calli (va_runS (As := [.int p0, .int 1, .int 99]) (rest := []) ⟨hx, hb, hml, hown, hts⟩ (c_X7_isBetween l dC dI e0 p0 1 99 s.heap.size) (cwS 3 hts (goodIn_sub (fun _ h9 => List.mem_cons_of_mem _ (List.mem_append_right _ (List.mem_append_left _ h9))) (by decide +kernel)) rfl rfl rfl (by decide +kernel) ⟨(Nat.le_of_ble_eq_true rfl), (Nat.le_of_ble_eq_true rfl)⟩) ⟨fz_blind, fz_pre hPc hKc hDc hAm hS hFc⟩ rfl rfl hl.1 rfl (lv_room (Nat.le_of_ble_eq_true rfl)) dX7_addMason_4 ⟨(Nat.le_of_ble_eq_true rfl), (Nat.le_of_ble_eq_true rfl)⟩) hS (fun q _ h => hFc q h) hFc (fun r u t H1 locs ht hvm hw hB hz1 hk1 hS => ?_)
  rcases hw with ⟨rfl, hp_1⟩ | ⟨rfl, hp_2⟩
  · have hP := fz_keep hP hk1
    generalize H1 = H at hP hS ⊢
    have hP : va_P (dC, dI) vwCl [(h0, .inr (12, [.ref hd, .ref hse, .ref hki, .ref hma, .ref hst, .ref hsp, .ref hlp, .ref htl, .int 0, .int 0, .int 0, .int 0, .int 0, .int 0, .int 0, .long ((0 : Int32).toInt64)])), (hma, .inl (cM, 4, .inr (.inr (.inr (.inr fma)))))] H := hP
    have hD : va_D A [(h0, .inr (12, [.ref hd, .ref hse, .ref hki, .ref hma, .ref hst, .ref hsp, .ref hlp, .ref htl, .int 0, .int 0, .int 0, .int 0, .int 0, .int 0, .int 0, .long ((0 : Int32).toInt64)])), (hma, .inl (cM, 4, .inr (.inr (.inr (.inr fma)))))] := hD
    refine W.widen (k := 0) (n := 0) (Nat.le_of_ble_eq_true rfl) (Nat.le_of_ble_eq_true rfl) ?_
    refine lv_if_eq (tgt := 20) hx hb dX7_addMason_7 (by decide) (fun c_9 => absurd c_9 (by decide)) (fun _ => ?_)
    refine lv_iload_n hx hb dX7_addMason_10 rfl (lv_at hl 2 rfl) ?_
    refine lv_iconst (v := 0) hx hb dX7_addMason_11 (by decide) ?_
    refine lv_bipush (v := 9) hx hb dX7_addMason_12 (by decide) ?_
    have hPc := hP.sub (ws' := []) [] rfl
    have hDc := hD.sub (ws' := []) [] (by decide) rfl
    have hKc := hK.sub (tys' := []) [] rfl
    have hFc : ∀ q : Nat, H.size ≤ q → A q := fun q h => hA q (Nat.le_trans hS.1 h)
    refine va_calli (va_runS (As := [.int p1, .int 0, .int 9]) (rest := []) ⟨hx, hb, hml, hown, hts⟩ (c_X7_isBetween l dC dI e0 p1 0 9 H.size) (cwS 3 hts (goodIn_sub (fun _ h9 => List.mem_cons_of_mem _ (List.mem_append_right _ (List.mem_append_left _ h9))) (by decide +kernel)) rfl rfl rfl (by decide +kernel) ⟨(Nat.le_of_ble_eq_true rfl), (Nat.le_of_ble_eq_true rfl)⟩) ⟨fz_blind, fz_pre hPc hKc hDc hAm hS hFc⟩ rfl rfl hl.1 rfl (lv_room (Nat.le_of_ble_eq_true rfl)) dX7_addMason_14 ⟨(Nat.le_of_ble_eq_true rfl), (Nat.le_of_ble_eq_true rfl)⟩) hS (fun q _ h => hFc q h) hFc (fun r u t H1 locs ht hvm hw hB hz1 hk1 hS => ?_)
    rcases hw with ⟨rfl, hp_3⟩ | ⟨rfl, hp_4⟩
    · have hP := fz_keep hP hk1
      generalize H1 = H at hP hS ⊢
      have hP : va_P (dC, dI) vwCl [(h0, .inr (12, [.ref hd, .ref hse, .ref hki, .ref hma, .ref hst, .ref hsp, .ref hlp, .ref htl, .int 0, .int 0, .int 0, .int 0, .int 0, .int 0, .int 0, .long ((0 : Int32).toInt64)])), (hma, .inl (cM, 4, .inr (.inr (.inr (.inr fma)))))] H := hP
      have hD : va_D A [(h0, .inr (12, [.ref hd, .ref hse, .ref hki, .ref hma, .ref hst, .ref hsp, .ref hlp, .ref htl, .int 0, .int 0, .int 0, .int 0, .int 0, .int 0, .int 0, .long ((0 : Int32).toInt64)])), (hma, .inl (cM, 4, .inr (.inr (.inr (.inr fma)))))] := hD
      refine W.widen (k := 0) (n := 0) (Nat.le_of_ble_eq_true rfl) (Nat.le_of_ble_eq_true rfl) ?_
      refine lv_if_ne (tgt := 30) hx hb dX7_addMason_17 (by decide) (fun _ => ?_) (fun c_9 => absurd c_9 (by decide))
      refine lv_aload_n hx hb dX7_addMason_30 rfl (lv_at hl 0 rfl) ?_
      refine va_get (D := (dC, dI)) (ci := 12) (v := .int 0) (C := RX7) (T := TX7) (N := 16) hx hb hts (fun _ h9 => List.mem_cons_of_mem _ (List.mem_append_right _ (List.mem_append_right _ (List.mem_append_left _ h9)))) hown hK hP 0 rfl rfl 9 (by decide) (hts _ (List.mem_cons_of_mem _ (List.mem_append_left _ (List.mem_of_getElem? (i := 0) rfl)))) (fun _ h9 => h9) rfl dX7_addMason_31 ?_
      refine lv_aload_n hx hb dX7_addMason_34 rfl (lv_at hl 0 rfl) ?_
      refine va_get (D := (dC, dI)) (ci := 12) (v := .ref hma) (C := RX7) (T := TX7) (N := 16) hx hb hts (fun _ h9 => List.mem_cons_of_mem _ (List.mem_append_right _ (List.mem_append_right _ (List.mem_append_left _ h9)))) hown hK hP 0 rfl rfl 3 (by decide) (hts _ (List.mem_cons_of_mem _ (List.mem_append_left _ (List.mem_of_getElem? (i := 1) rfl)))) (fun _ h9 => h9) rfl dX7_addMason_35 ?_
      refine va_alen hx hb hK hP 1 0 rfl rfl (v := 4) rfl dX7_addMason_38 ?_
      refine lv_icmp_lt (tgt := 52) hx hb dX7_addMason_39 (by decide) (fun _ => ?_) (fun c_9 => absurd (by decide) c_9)
      refine lv_aload_n hx hb dX7_addMason_52 rfl (lv_at hl 0 rfl) ?_
      refine va_get (D := (dC, dI)) (ci := 12) (v := .ref hma) (C := RX7) (T := TX7) (N := 16) hx hb hts (fun _ h9 => List.mem_cons_of_mem _ (List.mem_append_right _ (List.mem_append_right _ (List.mem_append_left _ h9)))) hown hK hP 0 rfl rfl 3 (by decide) (hts _ (List.mem_cons_of_mem _ (List.mem_append_left _ (List.mem_of_getElem? (i := 1) rfl)))) (fun _ h9 => h9) rfl dX7_addMason_53 ?_
      refine lv_aload_n hx hb dX7_addMason_56 rfl (lv_at hl 0 rfl) ?_
      refine va_get (D := (dC, dI)) (ci := 12) (v := .int 0) (C := RX7) (T := TX7) (N := 16) hx hb hts (fun _ h9 => List.mem_cons_of_mem _ (List.mem_append_right _ (List.mem_append_right _ (List.mem_append_left _ h9)))) hown hK hP 0 rfl rfl 9 (by decide) (hts _ (List.mem_cons_of_mem _ (List.mem_append_left _ (List.mem_of_getElem? (i := 0) rfl)))) (fun _ h9 => h9) rfl dX7_addMason_57 ?_
      refine va_new (ci := 8) (fs := [.int 0, .int 0, .int 0, .int 0, .int 0]) (C := RX3) (T := TX3) (N := 5) hx hb hts (fun _ h9 => List.mem_cons_of_mem _ (List.mem_append_right _ (List.mem_append_right _ (List.mem_append_right _ (List.mem_append_left _ h9))))) tyX3 tyX3_ok hown (hts _ (List.mem_cons_of_mem _ (List.mem_append_left _ (List.mem_of_getElem? (i := 2) rfl)))) (hts _ (List.mem_cons_of_mem _ (List.mem_append_left _ (List.mem_of_getElem? (i := 3) rfl)))) (hts _ (List.mem_cons_of_mem _ (List.mem_append_left _ (List.mem_of_getElem? (i := 4) rfl)))) hK hP hD hS hA rfl (fun j hj => by rcases (show j = 0 ∨ j = 1 ∨ j = 2 ∨ j = 3 ∨ j = 4 by omega) with rfl | rfl | rfl | rfl | rfl <;> rfl) (Nat.le_of_ble_eq_true rfl) (Nat.le_of_ble_eq_true rfl) dX7_addMason_60 (fun q_5 H hP hD hS => ?_)
      have hP : va_P (dC, dI) vwCl [(h0, .inr (12, [.ref hd, .ref hse, .ref hki, .ref hma, .ref hst, .ref hsp, .ref hlp, .ref htl, .int 0, .int 0, .int 0, .int 0, .int 0, .int 0, .int 0, .long ((0 : Int32).toInt64)])), (hma, .inl (cM, 4, .inr (.inr (.inr (.inr fma))))), (q_5, .inr (8, [.int 0, .int 0, .int 0, .int 0, .int 0]))] H := hP
      have hD : va_D A [(h0, .inr (12, [.ref hd, .ref hse, .ref hki, .ref hma, .ref hst, .ref hsp, .ref hlp, .ref htl, .int 0, .int 0, .int 0, .int 0, .int 0, .int 0, .int 0, .long ((0 : Int32).toInt64)])), (hma, .inl (cM, 4, .inr (.inr (.inr (.inr fma))))), (q_5, .inr (8, [.int 0, .int 0, .int 0, .int 0, .int 0]))] := hD
      refine W.widen (k := 1) (n := 5) (Nat.le_of_ble_eq_true rfl) (Nat.le_of_ble_eq_true rfl) ?_
      refine lv_dup hx hb dX7_addMason_63 rfl ?_
      refine lv_bipush (v := 65) hx hb dX7_addMason_64 (by decide) ?_
      refine lv_aload_n hx hb dX7_addMason_66 rfl (lv_at hl 0 rfl) ?_
      refine va_get (D := (dC, dI)) (ci := 12) (v := .int 0) (C := RX7) (T := TX7) (N := 16) hx hb hts (fun _ h9 => List.mem_cons_of_mem _ (List.mem_append_right _ (List.mem_append_right _ (List.mem_append_left _ h9)))) hown hK hP 0 rfl rfl 9 (by decide) (hts _ (List.mem_cons_of_mem _ (List.mem_append_left _ (List.mem_of_getElem? (i := 0) rfl)))) (fun _ h9 => h9) rfl dX7_addMason_67 ?_
      refine lv_iadd hx hb dX7_addMason_70 ?_
      refine lv_topi (fun z_9 e_9 => ?_)
      obtain rfl : 65 = z_9 := (e_9.trans (by decide)).symm
      refine lv_i2c (v := 65) hx hb dX7_addMason_71 (by decide) ?_
      refine lv_iload_n hx hb dX7_addMason_72 rfl (lv_at hl 1 rfl) ?_
      refine lv_iload_n hx hb dX7_addMason_73 rfl (lv_at hl 2 rfl) ?_
      have hPc := hP.sub (ws' := [(q_5, .inr (8, [.int 0, .int 0, .int 0, .int 0, .int 0]))]) [2] rfl
      have hDc := hD.sub (ws' := [(q_5, .inr (8, [.int 0, .int 0, .int 0, .int 0, .int 0]))]) [2] (by decide) rfl
      have hKc := hK.sub (tys' := []) [] rfl
      have hFc := va_free (wc := [(q_5, .inr (8, [.int 0, .int 0, .int 0, .int 0, .int 0]))]) hD hS hA [2] rfl
      refine va_callv (va_runI (As := [.int 65, .int p0, .int p1]) (rest := [.ref q_5, .int 0, .ref hma]) ⟨hx, hb, hml, hown, hts⟩ (c_X3_init l dC dI e0 q_5 p0 p1 H.size) (cwI 3 hts (goodIn_sub (fun _ h9 => List.mem_cons_of_mem _ (List.mem_append_right _ (List.mem_append_right _ (List.mem_append_right _ (List.mem_append_right _ (List.mem_append_left _ h9)))))) (by decide +kernel)) rfl rfl rfl (hts _ (List.mem_cons_of_mem _ (List.mem_append_left _ (List.mem_of_getElem? (i := 4) rfl)))) (hts _ (List.mem_cons_of_mem _ (List.mem_append_left _ (List.mem_of_getElem? (i := 5) rfl)))) (hts _ (List.mem_cons_of_mem _ (List.mem_append_left _ (List.mem_of_getElem? (i := 6) rfl)))) rfl (by decide +kernel) ⟨(Nat.le_of_ble_eq_true rfl), (Nat.le_of_ble_eq_true rfl)⟩) ⟨fz_blind, fz_pre hPc hKc hDc hAm hS hFc⟩ rfl rfl hl.1 rfl (lv_room (Nat.le_of_ble_eq_true rfl)) dX7_addMason_74 ⟨(Nat.le_of_ble_eq_true rfl), (Nat.le_of_ble_eq_true rfl)⟩) hS (fun q _ h => hFc q h) hFc (fun u t H1 locs ht hvm hw hB hz1 hk1 hS => ?_)
      obtain ⟨hP1, hK1, hD1⟩ := hB
      rw [ht] at hP1
      have hK1 := va_K.moved hvm.symm hK1
      obtain ⟨hP, hD⟩ := va_join (wr := [(h0, .inr (12, [.ref hd, .ref hse, .ref hki, .ref hma, .ref hst, .ref hsp, .ref hlp, .ref htl, .int 0, .int 0, .int 0, .int 0, .int 0, .int 0, .int 0, .long ((0 : Int32).toInt64)])), (hma, .inl (cM, 4, .inr (.inr (.inr (.inr fma)))))]) (w1 := [(q_5, .inr (8, [.int 65, .int p0, .int p1, .int 0, .int 0]))]) hP hD [2] [0, 1] rfl rfl (by decide) (by decide) hk1 hFc hP1 hD1
      generalize H1 = H at hP hS ⊢
      have hP : va_P (dC, dI) vwCl [(h0, .inr (12, [.ref hd, .ref hse, .ref hki, .ref hma, .ref hst, .ref hsp, .ref hlp, .ref htl, .int 0, .int 0, .int 0, .int 0, .int 0, .int 0, .int 0, .long ((0 : Int32).toInt64)])), (hma, .inl (cM, 4, .inr (.inr (.inr (.inr fma))))), (q_5, .inr (8, [.int 65, .int p0, .int p1, .int 0, .int 0]))] H := hP
      have hD : va_D A [(h0, .inr (12, [.ref hd, .ref hse, .ref hki, .ref hma, .ref hst, .ref hsp, .ref hlp, .ref htl, .int 0, .int 0, .int 0, .int 0, .int 0, .int 0, .int 0, .long ((0 : Int32).toInt64)])), (hma, .inl (cM, 4, .inr (.inr (.inr (.inr fma))))), (q_5, .inr (8, [.int 65, .int p0, .int p1, .int 0, .int 0]))] := hD
      have hK : va_K (dC, dI) vwCl [(cM, .object RX3)] s := hK
      refine W.widen (k := 1) (n := 5) (Nat.le_of_ble_eq_true rfl) (Nat.le_of_ble_eq_true rfl) ?_
      refine va_astq hx hb hK hP hD hS 1 0 2 8 rfl rfl rfl rfl (fz_il (by decide)) dX7_addMason_77 (fun H locs hP hD hS => ?_)
      have hP : va_P (dC, dI) vwCl [(h0, .inr (12, [.ref hd, .ref hse, .ref hki, .ref hma, .ref hst, .ref hsp, .ref hlp, .ref htl, .int 0, .int 0, .int 0, .int 0, .int 0, .int 0, .int 0, .long ((0 : Int32).toInt64)])), (hma, .inl (cM, 4, .inr (.inr (.inr (.inr (va_up fma (0 : Int32).toNatClampNeg (some q_5))))))), (q_5, .inr (8, [.int 65, .int p0, .int p1, .int 0, .int 0]))] H := hP
      have hD : va_D A [(h0, .inr (12, [.ref hd, .ref hse, .ref hki, .ref hma, .ref hst, .ref hsp, .ref hlp, .ref htl, .int 0, .int 0, .int 0, .int 0, .int 0, .int 0, .int 0, .long ((0 : Int32).toInt64)])), (hma, .inl (cM, 4, .inr (.inr (.inr (.inr (va_up fma (0 : Int32).toNatClampNeg (some q_5))))))), (q_5, .inr (8, [.int 65, .int p0, .int p1, .int 0, .int 0]))] := hD
      refine lv_aload_n hx hb dX7_addMason_78 rfl (lv_at hl 0 rfl) ?_
      refine lv_dup hx hb dX7_addMason_79 rfl ?_
      refine va_get (D := (dC, dI)) (ci := 12) (v := .int 0) (C := RX7) (T := TX7) (N := 16) hx hb hts (fun _ h9 => List.mem_cons_of_mem _ (List.mem_append_right _ (List.mem_append_right _ (List.mem_append_left _ h9)))) hown hK hP 0 rfl rfl 9 (by decide) (hts _ (List.mem_cons_of_mem _ (List.mem_append_left _ (List.mem_of_getElem? (i := 0) rfl)))) (fun _ h9 => h9) rfl dX7_addMason_80 ?_
      refine lv_dup_x1 hx hb dX7_addMason_83 rfl rfl ?_
      refine lv_iconst (v := 1) hx hb dX7_addMason_84 (by decide) ?_
      refine lv_iadd hx hb dX7_addMason_85 ?_
      refine lv_topi (fun z_9 e_9 => ?_)
      obtain rfl : 1 = z_9 := (e_9.trans (by decide)).symm
      refine va_put (D := (dC, dI)) (ci := 12) (v := .int 1) (ty := .int) (C := RX7) (T := TX7) (N := 16) hx hb hts (fun _ h9 => List.mem_cons_of_mem _ (List.mem_append_right _ (List.mem_append_right _ (List.mem_append_left _ h9)))) tyX7 tyX7_ok nmX7 hown hK hP hD hS 0 rfl rfl 9 (by decide) (hts _ (List.mem_cons_of_mem _ (List.mem_append_left _ (List.mem_of_getElem? (i := 0) rfl)))) (fun _ h9 => h9) rfl (by decide +kernel) rfl rfl (Nat.le_of_ble_eq_true rfl) dX7_addMason_86 (fun H locs hP hD hS => ?_)
      have hP : va_P (dC, dI) vwCl [(h0, .inr (12, [.ref hd, .ref hse, .ref hki, .ref hma, .ref hst, .ref hsp, .ref hlp, .ref htl, .int 0, .int 1, .int 0, .int 0, .int 0, .int 0, .int 0, .long ((0 : Int32).toInt64)])), (hma, .inl (cM, 4, .inr (.inr (.inr (.inr (va_up fma (0 : Int32).toNatClampNeg (some q_5))))))), (q_5, .inr (8, [.int 65, .int p0, .int p1, .int 0, .int 0]))] H := hP
      have hD : va_D A [(h0, .inr (12, [.ref hd, .ref hse, .ref hki, .ref hma, .ref hst, .ref hsp, .ref hlp, .ref htl, .int 0, .int 1, .int 0, .int 0, .int 0, .int 0, .int 0, .long ((0 : Int32).toInt64)])), (hma, .inl (cM, 4, .inr (.inr (.inr (.inr (va_up fma (0 : Int32).toNatClampNeg (some q_5))))))), (q_5, .inr (8, [.int 65, .int p0, .int p1, .int 0, .int 0]))] := hD
      refine W.widen (k := 1) (n := 6) (Nat.le_of_ble_eq_true rfl) (Nat.le_of_ble_eq_true rfl) ?_
      refine vx_ret ?_
      exact W.iret (v := 0) hx hb hr (fun t ht hW => ⟨⟨0, (), rfl, ⟨rfl, (q_c_X7_addMason_0 hp_1 hp_3)⟩, trivial⟩, hS.F ht⟩) hS.2.2 dX7_addMason_89
    · have hP := fz_keep hP hk1
      generalize H1 = H at hP hS ⊢
      have hP : va_P (dC, dI) vwCl [(h0, .inr (12, [.ref hd, .ref hse, .ref hki, .ref hma, .ref hst, .ref hsp, .ref hlp, .ref htl, .int 0, .int 0, .int 0, .int 0, .int 0, .int 0, .int 0, .long ((0 : Int32).toInt64)])), (hma, .inl (cM, 4, .inr (.inr (.inr (.inr fma)))))] H := hP
      have hD : va_D A [(h0, .inr (12, [.ref hd, .ref hse, .ref hki, .ref hma, .ref hst, .ref hsp, .ref hlp, .ref htl, .int 0, .int 0, .int 0, .int 0, .int 0, .int 0, .int 0, .long ((0 : Int32).toInt64)])), (hma, .inl (cM, 4, .inr (.inr (.inr (.inr fma)))))] := hD
      refine W.widen (k := 0) (n := 0) (Nat.le_of_ble_eq_true rfl) (Nat.le_of_ble_eq_true rfl) ?_
      refine lv_if_ne (tgt := 30) hx hb dX7_addMason_17 (by decide) (fun c_9 => absurd (by decide) c_9) (fun _ => ?_)
      obtain ⟨sa_9, hst_9⟩ := hAm.1.2.2.2.2.2.1 _ fz_s_87
      have hq_9 : ∀ w ∈ fz_w_IllegalArgument, w.before _ s = true := fun w h9 => hts w (List.mem_cons_of_mem _ (List.mem_append_right _ (List.mem_append_right _ (List.mem_append_right _ (List.mem_append_right _ (List.mem_append_right _ h9))))))
      exact vx_throwS (cls := "java/lang/IllegalArgumentException") (text := "a number is out of range") (names := ["java/lang/RuntimeException", "java/lang/Exception"]) (ik := 85) (is := 87) (ic := 89) (sa := sa_9) hx hb hlT hown (by decide +kernel) fz_nm_IllegalArgument (hq_9 _ List.mem_cons_self) (hq_9 _ (List.mem_cons_of_mem _ List.mem_cons_self)) hst_9 (fz_wf (ik := 0) hq_9 (fun _ h9 => List.mem_cons_of_mem _ (List.mem_cons_of_mem _ h9)) fz_ng_IllegalArgument (hAm.1.2.1 _ fz_x_IllegalArgument) hAm.1) fz_ot_IllegalArgument hAm.2.1 hAm.2.2.1 hS (hl.1.trans hml.symm) dX7_addMason_20 dX7_addMason_23 dX7_addMason_24 dX7_addMason_26 dX7_addMason_29 (fun x h9 => (htab x h9).elim) (by decide) (by decide) (Nat.le_of_ble_eq_true rfl) (Nat.le_of_ble_eq_true rfl) hlocks (fun t _ h1_9 h2_9 => ⟨(), trivial, ⟨rfl, (q_c_X7_addMason_1 hp_1 hp_4)⟩, fz_xF hS h1_9 h2_9⟩) hS.2.2 (Nat.le_of_ble_eq_true rfl) (Nat.le_of_ble_eq_true rfl)
  · have hP := fz_keep hP hk1
    generalize H1 = H at hP hS ⊢
    have hP : va_P (dC, dI) vwCl [(h0, .inr (12, [.ref hd, .ref hse, .ref hki, .ref hma, .ref hst, .ref hsp, .ref hlp, .ref htl, .int 0, .int 0, .int 0, .int 0, .int 0, .int 0, .int 0, .long ((0 : Int32).toInt64)])), (hma, .inl (cM, 4, .inr (.inr (.inr (.inr fma)))))] H := hP
    have hD : va_D A [(h0, .inr (12, [.ref hd, .ref hse, .ref hki, .ref hma, .ref hst, .ref hsp, .ref hlp, .ref htl, .int 0, .int 0, .int 0, .int 0, .int 0, .int 0, .int 0, .long ((0 : Int32).toInt64)])), (hma, .inl (cM, 4, .inr (.inr (.inr (.inr fma)))))] := hD
    refine W.widen (k := 0) (n := 0) (Nat.le_of_ble_eq_true rfl) (Nat.le_of_ble_eq_true rfl) ?_
    refine lv_if_eq (tgt := 20) hx hb dX7_addMason_7 (by decide) (fun _ => ?_) (fun c_9 => absurd (by decide) c_9)
    obtain ⟨sa_9, hst_9⟩ := hAm.1.2.2.2.2.2.1 _ fz_s_87
    have hq_9 : ∀ w ∈ fz_w_IllegalArgument, w.before _ s = true := fun w h9 => hts w (List.mem_cons_of_mem _ (List.mem_append_right _ (List.mem_append_right _ (List.mem_append_right _ (List.mem_append_right _ (List.mem_append_right _ h9))))))
    exact vx_throwS (cls := "java/lang/IllegalArgumentException") (text := "a number is out of range") (names := ["java/lang/RuntimeException", "java/lang/Exception"]) (ik := 85) (is := 87) (ic := 89) (sa := sa_9) hx hb hlT hown (by decide +kernel) fz_nm_IllegalArgument (hq_9 _ List.mem_cons_self) (hq_9 _ (List.mem_cons_of_mem _ List.mem_cons_self)) hst_9 (fz_wf (ik := 0) hq_9 (fun _ h9 => List.mem_cons_of_mem _ (List.mem_cons_of_mem _ h9)) fz_ng_IllegalArgument (hAm.1.2.1 _ fz_x_IllegalArgument) hAm.1) fz_ot_IllegalArgument hAm.2.1 hAm.2.2.1 hS (hl.1.trans hml.symm) dX7_addMason_20 dX7_addMason_23 dX7_addMason_24 dX7_addMason_26 dX7_addMason_29 (fun x h9 => (htab x h9).elim) (by decide) (by decide) (Nat.le_of_ble_eq_true rfl) (Nat.le_of_ble_eq_true rfl) hlocks (fun t _ h1_9 h2_9 => ⟨(), trivial, ⟨rfl, (q_c_X7_addMason_2 hp_2)⟩, fz_xF hS h1_9 h2_9⟩) hS.2.2 (Nat.le_of_ble_eq_true rfl) (Nat.le_of_ble_eq_true rfl)
def v_c_X7_cut : List Cond := .code yX7_cut cX7_cut 9 (some .int) :: ([.fieldLink RX7 10 "VoussoirYard" "drawing" "LVoussoirYard$Drawing;"] ++ (wsX70 ++ (wsV RX7 222 RX1 yX1_quadOf v_c_X1_quadOf ++ (wsV RX7 213 RX7 yX7_kindAt v_c_X7_kindAt ++ (wsV RX7 240 RX7 yX7_masonAt v_c_X7_masonAt ++ (fz_w_IndexOutOfBounds))))))
set_option maxRecDepth 20000 in
theorem i_c_X7_cut : ∀ w ∈ v_c_X7_cut, w ∈ lw_tbl := List.forall_mem_cons.mpr ⟨List.mem_of_getElem? (i := 823) (by decide +kernel), List.forall_mem_append.mpr ⟨List.forall_mem_cons.mpr ⟨List.mem_of_getElem? (i := 219) (by decide +kernel), fun _ h => absurd h List.not_mem_nil⟩, List.forall_mem_append.mpr ⟨inX7, List.forall_mem_append.mpr ⟨(by unfold wsV; exact List.forall_mem_append.mpr ⟨List.forall_mem_cons.mpr ⟨List.mem_of_getElem? (i := 367) (by decide +kernel), List.forall_mem_cons.mpr ⟨List.mem_of_getElem? (i := 342) (by decide +kernel), List.forall_mem_cons.mpr ⟨List.mem_of_getElem? (i := 343) (by decide +kernel), List.forall_mem_cons.mpr ⟨List.mem_of_getElem? (i := 50) (by decide +kernel), fun _ h => absurd h List.not_mem_nil⟩⟩⟩⟩, i_c_X1_quadOf⟩), List.forall_mem_append.mpr ⟨(by unfold wsV; exact List.forall_mem_append.mpr ⟨List.forall_mem_cons.mpr ⟨List.mem_of_getElem? (i := 754) (by decide +kernel), List.forall_mem_cons.mpr ⟨List.mem_of_getElem? (i := 756) (by decide +kernel), List.forall_mem_cons.mpr ⟨List.mem_of_getElem? (i := 20) (by decide +kernel), List.forall_mem_cons.mpr ⟨List.mem_of_getElem? (i := 49) (by decide +kernel), fun _ h => absurd h List.not_mem_nil⟩⟩⟩⟩, i_c_X7_kindAt⟩), List.forall_mem_append.mpr ⟨(by unfold wsV; exact List.forall_mem_append.mpr ⟨List.forall_mem_cons.mpr ⟨List.mem_of_getElem? (i := 824) (by decide +kernel), List.forall_mem_cons.mpr ⟨List.mem_of_getElem? (i := 826) (by decide +kernel), List.forall_mem_cons.mpr ⟨List.mem_of_getElem? (i := 21) (by decide +kernel), List.forall_mem_cons.mpr ⟨List.mem_of_getElem? (i := 49) (by decide +kernel), fun _ h => absurd h List.not_mem_nil⟩⟩⟩⟩, i_c_X7_masonAt⟩), fz_wi_IndexOutOfBounds⟩⟩⟩⟩⟩⟩
set_option maxHeartbeats 4000000 in
set_option maxRecDepth 100000 in
theorem c_X7_cut (l : Launch) (dC : Nat → ClassId) (dI : Nat → Nat → Nat) (e0 : Nat) (hlT : l.stackTraces = false) (h0 : Nat) (p0 p1 p2 : Int32) (hd hse hki hma hst hsp hlp htl hj hpr hqd : Nat) (sz : Nat) : vx_Met l yX7_cut v_c_X7_cut ({ frames := 7, cells := 1, slots := 6, locals := 100 }) (fz_P (dC, dI) e0 [(h0, .inr (12, [.ref hd, .ref hse, .ref hki, .ref hma, .ref hst, .ref hsp, .ref hlp, .ref htl, .int 0, .int 0, .int 0, .int 0, .int 0, .int 0, .int 0, .long ((0 : Int32).toInt64)])), (hd, .inr (6, [.ref hj, .ref hpr, .ref hqd, .int 0, .int 0, .int 1]))] [] sz (fun q : Nat => sz ≤ q) [.ref h0, .int p0, .int p1, .int p2]) (va_Qi (fun (r : Int32) (u : Unit) => False) (fun (u : Unit) (t : State) => True) (fun q : Nat => sz ≤ q)) (vx_X (fun _ : Unit => True) (fun (E : String) (_ : Unit) (_ : State) => (E = "java/lang/IndexOutOfBoundsException")) (fun q : Nat => sz ≤ q)) 1 6 (fun q : Nat => sz ≤ q) := by
  refine vx_ofW (cc := cX7_cut) (maxL := 9) (ret := (some .int)) (by decide) rfl ?_
  intro p e s m args below meth c s₁ B hml htab hv
  obtain ⟨rfl, hsz, hP, hK, hD0, hAm⟩ := hv
  have hx := B.exec
  have hb := B.bytes
  have hr := B.returns
  have hts := atoms_spec (ws := v_c_X7_cut) B.pre
  have hown : s.vm.findClass RX7 = some m.cls := findClass_of_methodNamed B.named
  have hlocks := B.notSynchronized
  subst hsz
  have hD := hD0
  generalize hAe : (fun q : Nat => s.heap.size ≤ q) = A at hAm ⊢
  have hA : ∀ q : Nat, s.heap.size ≤ q → A q := fun q h => by rw [← hAe]; exact h
  have hS : va_S A s.heap s.heap [] := va_S.rf
  have hP : va_P (dC, dI) vwCl [(h0, .inr (12, [.ref hd, .ref hse, .ref hki, .ref hma, .ref hst, .ref hsp, .ref hlp, .ref htl, .int 0, .int 0, .int 0, .int 0, .int 0, .int 0, .int 0, .long ((0 : Int32).toInt64)])), (hd, .inr (6, [.ref hj, .ref hpr, .ref hqd, .int 0, .int 0, .int 1]))] s.heap := hP
  have hl := lv_entry ([.ref h0, .int p0, .int p1, .int p2]) (n := 9) (Nat.le_of_ble_eq_true rfl)
  rw [lg_entry_eq]
  generalize (lg_sl ([.ref h0, .int p0, .int p1, .int p2]) ++ List.replicate (9 - (lg_sl ([.ref h0, .int p0, .int p1, .int p2])).length) Slot.unset).toArray = ls at hl ⊢
  have hl : lv_has ls 9 [(0, .ref h0), (1, .int p0), (2, .int p1), (3, .int p2)] := hl
  refine lv_aload_n hx hb dX7_cut_0 rfl (lv_at hl 0 rfl) ?_
  refine va_get (D := (dC, dI)) (ci := 12) (v := .ref hd) (C := RX7) (T := TX7) (N := 16) hx hb hts (fun _ h9 => List.mem_cons_of_mem _ (List.mem_append_right _ (List.mem_append_left _ h9))) hown hK hP 0 rfl rfl 0 (by decide) (hts _ (List.mem_cons_of_mem _ (List.mem_append_left _ (List.mem_of_getElem? (i := 0) rfl)))) (fun _ h9 => h9) rfl dX7_cut_1 ?_
  refine lv_iload_n hx hb dX7_cut_4 rfl (lv_at hl 1 rfl) ?_
  have hPc := hP.sub (ws' := [(hd, .inr (6, [.ref hj, .ref hpr, .ref hqd, .int 0, .int 0, .int 1]))]) [1] rfl
  have hDc := hD.sub (ws' := [(hd, .inr (6, [.ref hj, .ref hpr, .ref hqd, .int 0, .int 0, .int 1]))]) [1] (by decide) rfl
  have hKc := hK.sub (tys' := []) [] rfl
  have hFc : ∀ q : Nat, s.heap.size ≤ q → A q := fun q h => hA q (Nat.le_trans hS.1 h)
  refine va_callq (va_runV (As := [.int p0]) (rest := []) ⟨hx, hb, hml, hown, hts⟩ (c_X1_quadOf l dC dI e0 hd p0 hj hpr hqd s.heap.size) (cwV 1 hts (goodIn_sub (fun _ h9 => List.mem_cons_of_mem _ (List.mem_append_right _ (List.mem_append_right _ (List.mem_append_left _ h9)))) (by decide +kernel)) rfl rfl rfl (by decide +kernel) ⟨(Nat.le_of_ble_eq_true rfl), (Nat.le_of_ble_eq_true rfl)⟩) ⟨fz_blind, va_recv hKc hPc (ci := 6) (q0 := 0) rfl rfl, fz_pre hPc hKc hDc hAm hS hFc⟩ rfl rfl hl.1 rfl (lv_room (Nat.le_of_ble_eq_true rfl)) dX7_cut_5 ⟨(Nat.le_of_ble_eq_true rfl), (Nat.le_of_ble_eq_true rfl)⟩) hS (fun q _ h => hFc q h) hFc (fun r u t H1 locs ht hvm hw hB hz1 hk1 hS => ?_)
  obtain rfl := hw
  have hP := fz_keep hP hk1
  generalize H1 = H at hP hS ⊢
  have hP : va_P (dC, dI) vwCl [(h0, .inr (12, [.ref hd, .ref hse, .ref hki, .ref hma, .ref hst, .ref hsp, .ref hlp, .ref htl, .int 0, .int 0, .int 0, .int 0, .int 0, .int 0, .int 0, .long ((0 : Int32).toInt64)])), (hd, .inr (6, [.ref hj, .ref hpr, .ref hqd, .int 0, .int 0, .int 1]))] H := hP
  refine W.widen (k := 0) (n := 0) (Nat.le_of_ble_eq_true rfl) (Nat.le_of_ble_eq_true rfl) ?_
  refine lv_astoreN (lv' := [(4, .null), (0, .ref h0), (1, .int p0), (2, .int p1), (3, .int p2)]) hx hb dX7_cut_8 hl (by decide) rfl (fun ls hl => ?_)
  refine lv_aload_n hx hb dX7_cut_10 rfl (lv_at hl 1 rfl) ?_
  refine lv_iload_n hx hb dX7_cut_11 rfl (lv_at hl 3 rfl) ?_
  have hPc := hP.sub (ws' := [(h0, .inr (12, [.ref hd, .ref hse, .ref hki, .ref hma, .ref hst, .ref hsp, .ref hlp, .ref htl, .int 0, .int 0, .int 0, .int 0, .int 0, .int 0, .int 0, .long ((0 : Int32).toInt64)]))]) [0] rfl
  have hDc := hD.sub (ws' := [(h0, .inr (12, [.ref hd, .ref hse, .ref hki, .ref hma, .ref hst, .ref hsp, .ref hlp, .ref htl, .int 0, .int 0, .int 0, .int 0, .int 0, .int 0, .int 0, .long ((0 : Int32).toInt64)]))]) [0] (by decide) rfl
  have hKc := hK.sub (tys' := []) [] rfl
  have hFc : ∀ q : Nat, H.size ≤ q → A q := fun q h => hA q (Nat.le_trans hS.1 h)
  refine va_callq (va_runV (As := [.int p1]) (rest := []) ⟨hx, hb, hml, hown, hts⟩ (c_X7_kindAt l dC dI e0 h0 p1 hd hse hki hma hst hsp hlp htl H.size) (cwV 1 hts (goodIn_sub (fun _ h9 => List.mem_cons_of_mem _ (List.mem_append_right _ (List.mem_append_right _ (List.mem_append_right _ (List.mem_append_left _ h9))))) (by decide +kernel)) rfl rfl rfl (by decide +kernel) ⟨(Nat.le_of_ble_eq_true rfl), (Nat.le_of_ble_eq_true rfl)⟩) ⟨fz_blind, va_recv hKc hPc (ci := 12) (q0 := 0) rfl rfl, fz_pre hPc hKc hDc hAm hS hFc⟩ rfl rfl hl.1 rfl (lv_room (Nat.le_of_ble_eq_true rfl)) dX7_cut_12 ⟨(Nat.le_of_ble_eq_true rfl), (Nat.le_of_ble_eq_true rfl)⟩) hS (fun q _ h => hFc q h) hFc (fun r u t H1 locs ht hvm hw hB hz1 hk1 hS => ?_)
  obtain rfl := hw
  have hP := fz_keep hP hk1
  generalize H1 = H at hP hS ⊢
  have hP : va_P (dC, dI) vwCl [(h0, .inr (12, [.ref hd, .ref hse, .ref hki, .ref hma, .ref hst, .ref hsp, .ref hlp, .ref htl, .int 0, .int 0, .int 0, .int 0, .int 0, .int 0, .int 0, .long ((0 : Int32).toInt64)])), (hd, .inr (6, [.ref hj, .ref hpr, .ref hqd, .int 0, .int 0, .int 1]))] H := hP
  refine W.widen (k := 0) (n := 0) (Nat.le_of_ble_eq_true rfl) (Nat.le_of_ble_eq_true rfl) ?_
  refine lv_astoreN (lv' := [(5, .null), (4, .null), (0, .ref h0), (1, .int p0), (2, .int p1), (3, .int p2)]) hx hb dX7_cut_15 hl (by decide) rfl (fun ls hl => ?_)
  refine lv_aload_n hx hb dX7_cut_17 rfl (lv_at hl 2 rfl) ?_
  refine lv_iload_n hx hb dX7_cut_18 rfl (lv_at hl 5 rfl) ?_
  have hPc := hP.sub (ws' := [(h0, .inr (12, [.ref hd, .ref hse, .ref hki, .ref hma, .ref hst, .ref hsp, .ref hlp, .ref htl, .int 0, .int 0, .int 0, .int 0, .int 0, .int 0, .int 0, .long ((0 : Int32).toInt64)]))]) [0] rfl
  have hDc := hD.sub (ws' := [(h0, .inr (12, [.ref hd, .ref hse, .ref hki, .ref hma, .ref hst, .ref hsp, .ref hlp, .ref htl, .int 0, .int 0, .int 0, .int 0, .int 0, .int 0, .int 0, .long ((0 : Int32).toInt64)]))]) [0] (by decide) rfl
  have hKc := hK.sub (tys' := []) [] rfl
  have hFc : ∀ q : Nat, H.size ≤ q → A q := fun q h => hA q (Nat.le_trans hS.1 h)
  refine va_callq (va_runV (As := [.int p2]) (rest := []) ⟨hx, hb, hml, hown, hts⟩ (c_X7_masonAt l dC dI e0 h0 p2 hd hse hki hma hst hsp hlp htl H.size) (cwV 1 hts (goodIn_sub (fun _ h9 => List.mem_cons_of_mem _ (List.mem_append_right _ (List.mem_append_right _ (List.mem_append_right _ (List.mem_append_right _ (List.mem_append_left _ h9)))))) (by decide +kernel)) rfl rfl rfl (by decide +kernel) ⟨(Nat.le_of_ble_eq_true rfl), (Nat.le_of_ble_eq_true rfl)⟩) ⟨fz_blind, va_recv hKc hPc (ci := 12) (q0 := 0) rfl rfl, fz_pre hPc hKc hDc hAm hS hFc⟩ rfl rfl hl.1 rfl (lv_room (Nat.le_of_ble_eq_true rfl)) dX7_cut_19 ⟨(Nat.le_of_ble_eq_true rfl), (Nat.le_of_ble_eq_true rfl)⟩) hS (fun q _ h => hFc q h) hFc (fun r u t H1 locs ht hvm hw hB hz1 hk1 hS => ?_)
  obtain rfl := hw
  have hP := fz_keep hP hk1
  generalize H1 = H at hP hS ⊢
  have hP : va_P (dC, dI) vwCl [(h0, .inr (12, [.ref hd, .ref hse, .ref hki, .ref hma, .ref hst, .ref hsp, .ref hlp, .ref htl, .int 0, .int 0, .int 0, .int 0, .int 0, .int 0, .int 0, .long ((0 : Int32).toInt64)])), (hd, .inr (6, [.ref hj, .ref hpr, .ref hqd, .int 0, .int 0, .int 1]))] H := hP
  refine W.widen (k := 0) (n := 0) (Nat.le_of_ble_eq_true rfl) (Nat.le_of_ble_eq_true rfl) ?_
  refine lv_astoreN (lv' := [(6, .null), (5, .null), (4, .null), (0, .ref h0), (1, .int p0), (2, .int p1), (3, .int p2)]) hx hb dX7_cut_22 hl (by decide) rfl (fun ls hl => ?_)
  refine lv_aloadN hx hb dX7_cut_24 (lv_at hl 2 rfl) ?_
  refine lv_ifnullN (tgt := 39) hx hb dX7_cut_26 (by decide) ?_
  obtain ⟨sa_9, hst_9⟩ := hAm.1.2.2.2.2.2.1 _ fz_s_244
  have hq_9 : ∀ w ∈ fz_w_IndexOutOfBounds, w.before _ s = true := fun w h9 => hts w (List.mem_cons_of_mem _ (List.mem_append_right _ (List.mem_append_right _ (List.mem_append_right _ (List.mem_append_right _ (List.mem_append_right _ h9))))))
  exact vx_throwS (cls := "java/lang/IndexOutOfBoundsException") (text := "there is no such place, kind or mason") (names := ["java/lang/RuntimeException", "java/lang/Exception"]) (ik := 123) (is := 244) (ic := 127) (sa := sa_9) hx hb hlT hown (by decide +kernel) fz_nm_IndexOutOfBounds (hq_9 _ List.mem_cons_self) (hq_9 _ (List.mem_cons_of_mem _ List.mem_cons_self)) hst_9 (fz_wf (ik := 0) hq_9 (fun _ h9 => List.mem_cons_of_mem _ (List.mem_cons_of_mem _ h9)) fz_ng_IndexOutOfBounds (hAm.1.2.1 _ fz_x_IndexOutOfBounds) hAm.1) fz_ot_IndexOutOfBounds hAm.2.1 hAm.2.2.1 hS (hl.1.trans hml.symm) dX7_cut_39 dX7_cut_42 dX7_cut_43 dX7_cut_45 dX7_cut_48 (fun x h9 => (htab x h9).elim) (by decide) (by decide) (Nat.le_of_ble_eq_true rfl) (Nat.le_of_ble_eq_true rfl) hlocks (fun t _ h1_9 h2_9 => ⟨(), trivial, rfl, fz_xF hS h1_9 h2_9⟩) hS.2.2 (Nat.le_of_ble_eq_true rfl) (Nat.le_of_ble_eq_true rfl)
def v_c_X7_markAt : List Cond := .code yX7_markAt cX7_markAt 4 (some .char) :: ([] ++ (wsV RX7 269 RX7 yX7_stoneAt v_c_X7_stoneAt ++ (fz_w_IndexOutOfBounds)))
set_option maxRecDepth 20000 in
theorem i_c_X7_markAt : ∀ w ∈ v_c_X7_markAt, w ∈ lw_tbl := List.forall_mem_cons.mpr ⟨List.mem_of_getElem? (i := 1162) (by decide +kernel), List.forall_mem_append.mpr ⟨fun _ h => absurd h List.not_mem_nil, List.forall_mem_append.mpr ⟨(by unfold wsV; exact List.forall_mem_append.mpr ⟨List.forall_mem_cons.mpr ⟨List.mem_of_getElem? (i := 313) (by decide +kernel), List.forall_mem_cons.mpr ⟨List.mem_of_getElem? (i := 315) (by decide +kernel), List.forall_mem_cons.mpr ⟨List.mem_of_getElem? (i := 3) (by decide +kernel), List.forall_mem_cons.mpr ⟨List.mem_of_getElem? (i := 49) (by decide +kernel), fun _ h => absurd h List.not_mem_nil⟩⟩⟩⟩, i_c_X7_stoneAt⟩), fz_wi_IndexOutOfBounds⟩⟩⟩
set_option maxHeartbeats 4000000 in
set_option maxRecDepth 100000 in
theorem c_X7_markAt (l : Launch) (dC : Nat → ClassId) (dI : Nat → Nat → Nat) (e0 : Nat) (hlT : l.stackTraces = false) (h0 : Nat) (p0 p1 : Int32) (hd hse hki hma hst hsp hlp htl : Nat) (sz : Nat) : vx_Met l yX7_markAt v_c_X7_markAt ({ frames := 7, cells := 1, slots := 6, locals := 100 }) (fz_P (dC, dI) e0 [(h0, .inr (12, [.ref hd, .ref hse, .ref hki, .ref hma, .ref hst, .ref hsp, .ref hlp, .ref htl, .int 0, .int 0, .int 0, .int 0, .int 0, .int 0, .int 0, .long ((0 : Int32).toInt64)]))] [] sz (fun q : Nat => sz ≤ q) [.ref h0, .int p0, .int p1]) (va_Qi (fun (r : Int32) (u : Unit) => False) (fun (u : Unit) (t : State) => True) (fun q : Nat => sz ≤ q)) (vx_X (fun _ : Unit => True) (fun (E : String) (_ : Unit) (_ : State) => (E = "java/lang/IndexOutOfBoundsException")) (fun q : Nat => sz ≤ q)) 1 6 (fun q : Nat => sz ≤ q) := by
  refine vx_ofW (cc := cX7_markAt) (maxL := 4) (ret := (some .char)) (by decide) rfl ?_
  intro p e s m args below meth c s₁ B hml htab hv
  obtain ⟨rfl, hsz, hP, hK, hD0, hAm⟩ := hv
  have hx := B.exec
  have hb := B.bytes
  have hr := B.returns
  have hts := atoms_spec (ws := v_c_X7_markAt) B.pre
  have hown : s.vm.findClass RX7 = some m.cls := findClass_of_methodNamed B.named
  have hlocks := B.notSynchronized
  subst hsz
  have hD := hD0
  generalize hAe : (fun q : Nat => s.heap.size ≤ q) = A at hAm ⊢
  have hA : ∀ q : Nat, s.heap.size ≤ q → A q := fun q h => by rw [← hAe]; exact h
  have hS : va_S A s.heap s.heap [] := va_S.rf
  have hP : va_P (dC, dI) vwCl [(h0, .inr (12, [.ref hd, .ref hse, .ref hki, .ref hma, .ref hst, .ref hsp, .ref hlp, .ref htl, .int 0, .int 0, .int 0, .int 0, .int 0, .int 0, .int 0, .long ((0 : Int32).toInt64)]))] s.heap := hP
  have hl := lv_entry ([.ref h0, .int p0, .int p1]) (n := 4) (Nat.le_of_ble_eq_true rfl)
  rw [lg_entry_eq]
  generalize (lg_sl ([.ref h0, .int p0, .int p1]) ++ List.replicate (4 - (lg_sl ([.ref h0, .int p0, .int p1])).length) Slot.unset).toArray = ls at hl ⊢
  have hl : lv_has ls 4 [(0, .ref h0), (1, .int p0), (2, .int p1)] := hl
  refine lv_aload_n hx hb dX7_markAt_0 rfl (lv_at hl 0 rfl) ?_
  refine lv_iload_n hx hb dX7_markAt_1 rfl (lv_at hl 1 rfl) ?_
  have hPc := hP.sub (ws' := [(h0, .inr (12, [.ref hd, .ref hse, .ref hki, .ref hma, .ref hst, .ref hsp, .ref hlp, .ref htl, .int 0, .int 0, .int 0, .int 0, .int 0, .int 0, .int 0, .long ((0 : Int32).toInt64)]))]) [0] rfl
  have hDc := hD.sub (ws' := [(h0, .inr (12, [.ref hd, .ref hse, .ref hki, .ref hma, .ref hst, .ref hsp, .ref hlp, .ref htl, .int 0, .int 0, .int 0, .int 0, .int 0, .int 0, .int 0, .long ((0 : Int32).toInt64)]))]) [0] (by decide) rfl
  have hKc := hK.sub (tys' := []) [] rfl
  have hFc : ∀ q : Nat, s.heap.size ≤ q → A q := fun q h => hA q (Nat.le_trans hS.1 h)
  refine va_callq (va_runV (As := [.int p0]) (rest := []) ⟨hx, hb, hml, hown, hts⟩ (c_X7_stoneAt l dC dI e0 h0 p0 hd hse hki hma hst hsp hlp htl s.heap.size) (cwV 1 hts (goodIn_sub (fun _ h9 => List.mem_cons_of_mem _ (List.mem_append_right _ (List.mem_append_left _ h9))) (by decide +kernel)) rfl rfl rfl (by decide +kernel) ⟨(Nat.le_of_ble_eq_true rfl), (Nat.le_of_ble_eq_true rfl)⟩) ⟨fz_blind, va_recv hKc hPc (ci := 12) (q0 := 0) rfl rfl, fz_pre hPc hKc hDc hAm hS hFc⟩ rfl rfl hl.1 rfl (lv_room (Nat.le_of_ble_eq_true rfl)) dX7_markAt_2 ⟨(Nat.le_of_ble_eq_true rfl), (Nat.le_of_ble_eq_true rfl)⟩) hS (fun q _ h => hFc q h) hFc (fun r u t H1 locs ht hvm hw hB hz1 hk1 hS => ?_)
  obtain rfl := hw
  have hP := fz_keep hP hk1
  generalize H1 = H at hP hS ⊢
  have hP : va_P (dC, dI) vwCl [(h0, .inr (12, [.ref hd, .ref hse, .ref hki, .ref hma, .ref hst, .ref hsp, .ref hlp, .ref htl, .int 0, .int 0, .int 0, .int 0, .int 0, .int 0, .int 0, .long ((0 : Int32).toInt64)]))] H := hP
  refine W.widen (k := 0) (n := 0) (Nat.le_of_ble_eq_true rfl) (Nat.le_of_ble_eq_true rfl) ?_
  refine lv_astore_nN (lv' := [(3, .null), (0, .ref h0), (1, .int p0), (2, .int p1)]) hx hb dX7_markAt_5 rfl hl (by decide) rfl (fun ls hl => ?_)
  refine lv_aload_nN hx hb dX7_markAt_6 rfl (lv_at hl 0 rfl) ?_
  refine lv_ifnonnullN hx hb dX7_markAt_7 ?_
  obtain ⟨sa_9, hst_9⟩ := hAm.1.2.2.2.2.2.1 _ fz_s_273
  have hq_9 : ∀ w ∈ fz_w_IndexOutOfBounds, w.before _ s = true := fun w h9 => hts w (List.mem_cons_of_mem _ (List.mem_append_right _ (List.mem_append_right _ h9)))
  exact vx_throwSW (cls := "java/lang/IndexOutOfBoundsException") (text := "there is no such stone") (names := ["java/lang/RuntimeException", "java/lang/Exception"]) (ik := 123) (is := 273) (ic := 127) (sa := sa_9) hx hb hlT hown (by decide +kernel) fz_nm_IndexOutOfBounds (hq_9 _ List.mem_cons_self) (hq_9 _ (List.mem_cons_of_mem _ List.mem_cons_self)) hst_9 (fz_wf (ik := 0) hq_9 (fun _ h9 => List.mem_cons_of_mem _ (List.mem_cons_of_mem _ h9)) fz_ng_IndexOutOfBounds (hAm.1.2.1 _ fz_x_IndexOutOfBounds) hAm.1) fz_ot_IndexOutOfBounds hAm.2.1 hAm.2.2.1 hS (hl.1.trans hml.symm) dX7_markAt_10 dX7_markAt_13 dX7_markAt_14 dX7_markAt_17 dX7_markAt_20 (fun x h9 => (htab x h9).elim) (by decide) (by decide) (Nat.le_of_ble_eq_true rfl) (Nat.le_of_ble_eq_true rfl) hlocks (fun t _ h1_9 h2_9 => ⟨(), trivial, rfl, fz_xF hS h1_9 h2_9⟩) hS.2.2 (Nat.le_of_ble_eq_true rfl) (Nat.le_of_ble_eq_true rfl)
def v_c_X7_fits : List Cond := .code yX7_fits cX7_fits 5 (some .boolean) :: ([.fieldLink RX7 10 "VoussoirYard" "drawing" "LVoussoirYard$Drawing;"] ++ (wsV RX7 269 RX7 yX7_stoneAt v_c_X7_stoneAt ++ (wsX70 ++ (wsV RX7 222 RX1 yX1_quadOf v_c_X1_quadOf ++ (fz_w_IndexOutOfBounds)))))
set_option maxRecDepth 20000 in
theorem i_c_X7_fits : ∀ w ∈ v_c_X7_fits, w ∈ lw_tbl := List.forall_mem_cons.mpr ⟨List.mem_of_getElem? (i := 1185) (by decide +kernel), List.forall_mem_append.mpr ⟨List.forall_mem_cons.mpr ⟨List.mem_of_getElem? (i := 219) (by decide +kernel), fun _ h => absurd h List.not_mem_nil⟩, List.forall_mem_append.mpr ⟨(by unfold wsV; exact List.forall_mem_append.mpr ⟨List.forall_mem_cons.mpr ⟨List.mem_of_getElem? (i := 313) (by decide +kernel), List.forall_mem_cons.mpr ⟨List.mem_of_getElem? (i := 315) (by decide +kernel), List.forall_mem_cons.mpr ⟨List.mem_of_getElem? (i := 3) (by decide +kernel), List.forall_mem_cons.mpr ⟨List.mem_of_getElem? (i := 49) (by decide +kernel), fun _ h => absurd h List.not_mem_nil⟩⟩⟩⟩, i_c_X7_stoneAt⟩), List.forall_mem_append.mpr ⟨inX7, List.forall_mem_append.mpr ⟨(by unfold wsV; exact List.forall_mem_append.mpr ⟨List.forall_mem_cons.mpr ⟨List.mem_of_getElem? (i := 367) (by decide +kernel), List.forall_mem_cons.mpr ⟨List.mem_of_getElem? (i := 342) (by decide +kernel), List.forall_mem_cons.mpr ⟨List.mem_of_getElem? (i := 343) (by decide +kernel), List.forall_mem_cons.mpr ⟨List.mem_of_getElem? (i := 50) (by decide +kernel), fun _ h => absurd h List.not_mem_nil⟩⟩⟩⟩, i_c_X1_quadOf⟩), fz_wi_IndexOutOfBounds⟩⟩⟩⟩⟩
set_option maxHeartbeats 4000000 in
set_option maxRecDepth 100000 in
theorem c_X7_fits (l : Launch) (dC : Nat → ClassId) (dI : Nat → Nat → Nat) (e0 : Nat) (hlT : l.stackTraces = false) (h0 : Nat) (p0 p1 : Int32) (hd hse hki hma hst hsp hlp htl hj hpr hqd : Nat) (sz : Nat) : vx_Met l yX7_fits v_c_X7_fits ({ frames := 7, cells := 1, slots := 6, locals := 100 }) (fz_P (dC, dI) e0 [(h0, .inr (12, [.ref hd, .ref hse, .ref hki, .ref hma, .ref hst, .ref hsp, .ref hlp, .ref htl, .int 0, .int 0, .int 0, .int 0, .int 0, .int 0, .int 0, .long ((0 : Int32).toInt64)])), (hd, .inr (6, [.ref hj, .ref hpr, .ref hqd, .int 0, .int 0, .int 1]))] [] sz (fun q : Nat => sz ≤ q) [.ref h0, .int p0, .int p1]) (va_Qi (fun (r : Int32) (u : Unit) => False) (fun (u : Unit) (t : State) => True) (fun q : Nat => sz ≤ q)) (vx_X (fun _ : Unit => True) (fun (E : String) (_ : Unit) (_ : State) => (E = "java/lang/IndexOutOfBoundsException")) (fun q : Nat => sz ≤ q)) 1 6 (fun q : Nat => sz ≤ q) := by
  refine vx_ofW (cc := cX7_fits) (maxL := 5) (ret := (some .boolean)) (by decide) rfl ?_
  intro p e s m args below meth c s₁ B hml htab hv
  obtain ⟨rfl, hsz, hP, hK, hD0, hAm⟩ := hv
  have hx := B.exec
  have hb := B.bytes
  have hr := B.returns
  have hts := atoms_spec (ws := v_c_X7_fits) B.pre
  have hown : s.vm.findClass RX7 = some m.cls := findClass_of_methodNamed B.named
  have hlocks := B.notSynchronized
  subst hsz
  have hD := hD0
  generalize hAe : (fun q : Nat => s.heap.size ≤ q) = A at hAm ⊢
  have hA : ∀ q : Nat, s.heap.size ≤ q → A q := fun q h => by rw [← hAe]; exact h
  have hS : va_S A s.heap s.heap [] := va_S.rf
  have hP : va_P (dC, dI) vwCl [(h0, .inr (12, [.ref hd, .ref hse, .ref hki, .ref hma, .ref hst, .ref hsp, .ref hlp, .ref htl, .int 0, .int 0, .int 0, .int 0, .int 0, .int 0, .int 0, .long ((0 : Int32).toInt64)])), (hd, .inr (6, [.ref hj, .ref hpr, .ref hqd, .int 0, .int 0, .int 1]))] s.heap := hP
  have hl := lv_entry ([.ref h0, .int p0, .int p1]) (n := 5) (Nat.le_of_ble_eq_true rfl)
  rw [lg_entry_eq]
  generalize (lg_sl ([.ref h0, .int p0, .int p1]) ++ List.replicate (5 - (lg_sl ([.ref h0, .int p0, .int p1])).length) Slot.unset).toArray = ls at hl ⊢
  have hl : lv_has ls 5 [(0, .ref h0), (1, .int p0), (2, .int p1)] := hl
  refine lv_aload_n hx hb dX7_fits_0 rfl (lv_at hl 0 rfl) ?_
  refine lv_iload_n hx hb dX7_fits_1 rfl (lv_at hl 1 rfl) ?_
  have hPc := hP.sub (ws' := [(h0, .inr (12, [.ref hd, .ref hse, .ref hki, .ref hma, .ref hst, .ref hsp, .ref hlp, .ref htl, .int 0, .int 0, .int 0, .int 0, .int 0, .int 0, .int 0, .long ((0 : Int32).toInt64)]))]) [0] rfl
  have hDc := hD.sub (ws' := [(h0, .inr (12, [.ref hd, .ref hse, .ref hki, .ref hma, .ref hst, .ref hsp, .ref hlp, .ref htl, .int 0, .int 0, .int 0, .int 0, .int 0, .int 0, .int 0, .long ((0 : Int32).toInt64)]))]) [0] (by decide) rfl
  have hKc := hK.sub (tys' := []) [] rfl
  have hFc : ∀ q : Nat, s.heap.size ≤ q → A q := fun q h => hA q (Nat.le_trans hS.1 h)
  refine va_callq (va_runV (As := [.int p0]) (rest := []) ⟨hx, hb, hml, hown, hts⟩ (c_X7_stoneAt l dC dI e0 h0 p0 hd hse hki hma hst hsp hlp htl s.heap.size) (cwV 1 hts (goodIn_sub (fun _ h9 => List.mem_cons_of_mem _ (List.mem_append_right _ (List.mem_append_left _ h9))) (by decide +kernel)) rfl rfl rfl (by decide +kernel) ⟨(Nat.le_of_ble_eq_true rfl), (Nat.le_of_ble_eq_true rfl)⟩) ⟨fz_blind, va_recv hKc hPc (ci := 12) (q0 := 0) rfl rfl, fz_pre hPc hKc hDc hAm hS hFc⟩ rfl rfl hl.1 rfl (lv_room (Nat.le_of_ble_eq_true rfl)) dX7_fits_2 ⟨(Nat.le_of_ble_eq_true rfl), (Nat.le_of_ble_eq_true rfl)⟩) hS (fun q _ h => hFc q h) hFc (fun r u t H1 locs ht hvm hw hB hz1 hk1 hS => ?_)
  obtain rfl := hw
  have hP := fz_keep hP hk1
  generalize H1 = H at hP hS ⊢
  have hP : va_P (dC, dI) vwCl [(h0, .inr (12, [.ref hd, .ref hse, .ref hki, .ref hma, .ref hst, .ref hsp, .ref hlp, .ref htl, .int 0, .int 0, .int 0, .int 0, .int 0, .int 0, .int 0, .long ((0 : Int32).toInt64)])), (hd, .inr (6, [.ref hj, .ref hpr, .ref hqd, .int 0, .int 0, .int 1]))] H := hP
  refine W.widen (k := 0) (n := 0) (Nat.le_of_ble_eq_true rfl) (Nat.le_of_ble_eq_true rfl) ?_
  refine lv_astore_nN (lv' := [(3, .null), (0, .ref h0), (1, .int p0), (2, .int p1)]) hx hb dX7_fits_5 rfl hl (by decide) rfl (fun ls hl => ?_)
  refine lv_aload_n hx hb dX7_fits_6 rfl (lv_at hl 1 rfl) ?_
  refine va_get (D := (dC, dI)) (ci := 12) (v := .ref hd) (C := RX7) (T := TX7) (N := 16) hx hb hts (fun _ h9 => List.mem_cons_of_mem _ (List.mem_append_right _ (List.mem_append_right _ (List.mem_append_left _ h9)))) hown hK hP 0 rfl rfl 0 (by decide) (hts _ (List.mem_cons_of_mem _ (List.mem_append_left _ (List.mem_of_getElem? (i := 0) rfl)))) (fun _ h9 => h9) rfl dX7_fits_7 ?_
  refine lv_iload_n hx hb dX7_fits_10 rfl (lv_at hl 3 rfl) ?_
  have hPc := hP.sub (ws' := [(hd, .inr (6, [.ref hj, .ref hpr, .ref hqd, .int 0, .int 0, .int 1]))]) [1] rfl
  have hDc := hD.sub (ws' := [(hd, .inr (6, [.ref hj, .ref hpr, .ref hqd, .int 0, .int 0, .int 1]))]) [1] (by decide) rfl
  have hKc := hK.sub (tys' := []) [] rfl
  have hFc : ∀ q : Nat, H.size ≤ q → A q := fun q h => hA q (Nat.le_trans hS.1 h)
  refine va_callq (va_runV (As := [.int p1]) (rest := []) ⟨hx, hb, hml, hown, hts⟩ (c_X1_quadOf l dC dI e0 hd p1 hj hpr hqd H.size) (cwV 1 hts (goodIn_sub (fun _ h9 => List.mem_cons_of_mem _ (List.mem_append_right _ (List.mem_append_right _ (List.mem_append_right _ (List.mem_append_left _ h9))))) (by decide +kernel)) rfl rfl rfl (by decide +kernel) ⟨(Nat.le_of_ble_eq_true rfl), (Nat.le_of_ble_eq_true rfl)⟩) ⟨fz_blind, va_recv hKc hPc (ci := 6) (q0 := 0) rfl rfl, fz_pre hPc hKc hDc hAm hS hFc⟩ rfl rfl hl.1 rfl (lv_room (Nat.le_of_ble_eq_true rfl)) dX7_fits_11 ⟨(Nat.le_of_ble_eq_true rfl), (Nat.le_of_ble_eq_true rfl)⟩) hS (fun q _ h => hFc q h) hFc (fun r u t H1 locs ht hvm hw hB hz1 hk1 hS => ?_)
  obtain rfl := hw
  have hP := fz_keep hP hk1
  generalize H1 = H at hP hS ⊢
  have hP : va_P (dC, dI) vwCl [(h0, .inr (12, [.ref hd, .ref hse, .ref hki, .ref hma, .ref hst, .ref hsp, .ref hlp, .ref htl, .int 0, .int 0, .int 0, .int 0, .int 0, .int 0, .int 0, .long ((0 : Int32).toInt64)])), (hd, .inr (6, [.ref hj, .ref hpr, .ref hqd, .int 0, .int 0, .int 1]))] H := hP
  refine W.widen (k := 0) (n := 0) (Nat.le_of_ble_eq_true rfl) (Nat.le_of_ble_eq_true rfl) ?_
  refine lv_astoreN (lv' := [(4, .null), (3, .null), (0, .ref h0), (1, .int p0), (2, .int p1)]) hx hb dX7_fits_14 hl (by decide) rfl (fun ls hl => ?_)
  refine lv_aload_nN hx hb dX7_fits_16 rfl (lv_at hl 1 rfl) ?_
  refine lv_ifnullN (tgt := 25) hx hb dX7_fits_17 (by decide) ?_
  obtain ⟨sa_9, hst_9⟩ := hAm.1.2.2.2.2.2.1 _ fz_s_296
  have hq_9 : ∀ w ∈ fz_w_IndexOutOfBounds, w.before _ s = true := fun w h9 => hts w (List.mem_cons_of_mem _ (List.mem_append_right _ (List.mem_append_right _ (List.mem_append_right _ (List.mem_append_right _ h9)))))
  exact vx_throwSW (cls := "java/lang/IndexOutOfBoundsException") (text := "there is no such stone or place") (names := ["java/lang/RuntimeException", "java/lang/Exception"]) (ik := 123) (is := 296) (ic := 127) (sa := sa_9) hx hb hlT hown (by decide +kernel) fz_nm_IndexOutOfBounds (hq_9 _ List.mem_cons_self) (hq_9 _ (List.mem_cons_of_mem _ List.mem_cons_self)) hst_9 (fz_wf (ik := 0) hq_9 (fun _ h9 => List.mem_cons_of_mem _ (List.mem_cons_of_mem _ h9)) fz_ng_IndexOutOfBounds (hAm.1.2.1 _ fz_x_IndexOutOfBounds) hAm.1) fz_ot_IndexOutOfBounds hAm.2.1 hAm.2.2.1 hS (hl.1.trans hml.symm) dX7_fits_25 dX7_fits_28 dX7_fits_29 dX7_fits_32 dX7_fits_35 (fun x h9 => (htab x h9).elim) (by decide) (by decide) (Nat.le_of_ble_eq_true rfl) (Nat.le_of_ble_eq_true rfl) hlocks (fun t _ h1_9 h2_9 => ⟨(), trivial, rfl, fz_xF hS h1_9 h2_9⟩) hS.2.2 (Nat.le_of_ble_eq_true rfl) (Nat.le_of_ble_eq_true rfl)
def v_c_X7_set : List Cond := .code yX7_set cX7_set 5 (some .int) :: ([.fieldLink RX7 10 "VoussoirYard" "drawing" "LVoussoirYard$Drawing;"] ++ (wsV RX7 269 RX7 yX7_stoneAt v_c_X7_stoneAt ++ (wsX70 ++ (wsV RX7 222 RX1 yX1_quadOf v_c_X1_quadOf ++ (fz_w_IndexOutOfBounds)))))
set_option maxRecDepth 20000 in
theorem i_c_X7_set : ∀ w ∈ v_c_X7_set, w ∈ lw_tbl := List.forall_mem_cons.mpr ⟨List.mem_of_getElem? (i := 1208) (by decide +kernel), List.forall_mem_append.mpr ⟨List.forall_mem_cons.mpr ⟨List.mem_of_getElem? (i := 219) (by decide +kernel), fun _ h => absurd h List.not_mem_nil⟩, List.forall_mem_append.mpr ⟨(by unfold wsV; exact List.forall_mem_append.mpr ⟨List.forall_mem_cons.mpr ⟨List.mem_of_getElem? (i := 313) (by decide +kernel), List.forall_mem_cons.mpr ⟨List.mem_of_getElem? (i := 315) (by decide +kernel), List.forall_mem_cons.mpr ⟨List.mem_of_getElem? (i := 3) (by decide +kernel), List.forall_mem_cons.mpr ⟨List.mem_of_getElem? (i := 49) (by decide +kernel), fun _ h => absurd h List.not_mem_nil⟩⟩⟩⟩, i_c_X7_stoneAt⟩), List.forall_mem_append.mpr ⟨inX7, List.forall_mem_append.mpr ⟨(by unfold wsV; exact List.forall_mem_append.mpr ⟨List.forall_mem_cons.mpr ⟨List.mem_of_getElem? (i := 367) (by decide +kernel), List.forall_mem_cons.mpr ⟨List.mem_of_getElem? (i := 342) (by decide +kernel), List.forall_mem_cons.mpr ⟨List.mem_of_getElem? (i := 343) (by decide +kernel), List.forall_mem_cons.mpr ⟨List.mem_of_getElem? (i := 50) (by decide +kernel), fun _ h => absurd h List.not_mem_nil⟩⟩⟩⟩, i_c_X1_quadOf⟩), fz_wi_IndexOutOfBounds⟩⟩⟩⟩⟩
set_option maxHeartbeats 4000000 in
set_option maxRecDepth 100000 in
theorem c_X7_set (l : Launch) (dC : Nat → ClassId) (dI : Nat → Nat → Nat) (e0 : Nat) (hlT : l.stackTraces = false) (h0 : Nat) (p0 p1 : Int32) (hd hse hki hma hst hsp hlp htl hj hpr hqd : Nat) (sz : Nat) : vx_Met l yX7_set v_c_X7_set ({ frames := 7, cells := 1, slots := 6, locals := 100 }) (fz_P (dC, dI) e0 [(h0, .inr (12, [.ref hd, .ref hse, .ref hki, .ref hma, .ref hst, .ref hsp, .ref hlp, .ref htl, .int 0, .int 0, .int 0, .int 0, .int 0, .int 0, .int 0, .long ((0 : Int32).toInt64)])), (hd, .inr (6, [.ref hj, .ref hpr, .ref hqd, .int 0, .int 0, .int 1]))] [] sz (fun q : Nat => sz ≤ q) [.ref h0, .int p0, .int p1]) (va_Qi (fun (r : Int32) (u : Unit) => False) (fun (u : Unit) (t : State) => True) (fun q : Nat => sz ≤ q)) (vx_X (fun _ : Unit => True) (fun (E : String) (_ : Unit) (_ : State) => (E = "java/lang/IndexOutOfBoundsException")) (fun q : Nat => sz ≤ q)) 1 6 (fun q : Nat => sz ≤ q) := by
  refine vx_ofW (cc := cX7_set) (maxL := 5) (ret := (some .int)) (by decide) rfl ?_
  intro p e s m args below meth c s₁ B hml htab hv
  obtain ⟨rfl, hsz, hP, hK, hD0, hAm⟩ := hv
  have hx := B.exec
  have hb := B.bytes
  have hr := B.returns
  have hts := atoms_spec (ws := v_c_X7_set) B.pre
  have hown : s.vm.findClass RX7 = some m.cls := findClass_of_methodNamed B.named
  have hlocks := B.notSynchronized
  subst hsz
  have hD := hD0
  generalize hAe : (fun q : Nat => s.heap.size ≤ q) = A at hAm ⊢
  have hA : ∀ q : Nat, s.heap.size ≤ q → A q := fun q h => by rw [← hAe]; exact h
  have hS : va_S A s.heap s.heap [] := va_S.rf
  have hP : va_P (dC, dI) vwCl [(h0, .inr (12, [.ref hd, .ref hse, .ref hki, .ref hma, .ref hst, .ref hsp, .ref hlp, .ref htl, .int 0, .int 0, .int 0, .int 0, .int 0, .int 0, .int 0, .long ((0 : Int32).toInt64)])), (hd, .inr (6, [.ref hj, .ref hpr, .ref hqd, .int 0, .int 0, .int 1]))] s.heap := hP
  have hl := lv_entry ([.ref h0, .int p0, .int p1]) (n := 5) (Nat.le_of_ble_eq_true rfl)
  rw [lg_entry_eq]
  generalize (lg_sl ([.ref h0, .int p0, .int p1]) ++ List.replicate (5 - (lg_sl ([.ref h0, .int p0, .int p1])).length) Slot.unset).toArray = ls at hl ⊢
  have hl : lv_has ls 5 [(0, .ref h0), (1, .int p0), (2, .int p1)] := hl
  refine lv_aload_n hx hb dX7_set_0 rfl (lv_at hl 0 rfl) ?_
  refine lv_iload_n hx hb dX7_set_1 rfl (lv_at hl 1 rfl) ?_
  have hPc := hP.sub (ws' := [(h0, .inr (12, [.ref hd, .ref hse, .ref hki, .ref hma, .ref hst, .ref hsp, .ref hlp, .ref htl, .int 0, .int 0, .int 0, .int 0, .int 0, .int 0, .int 0, .long ((0 : Int32).toInt64)]))]) [0] rfl
  have hDc := hD.sub (ws' := [(h0, .inr (12, [.ref hd, .ref hse, .ref hki, .ref hma, .ref hst, .ref hsp, .ref hlp, .ref htl, .int 0, .int 0, .int 0, .int 0, .int 0, .int 0, .int 0, .long ((0 : Int32).toInt64)]))]) [0] (by decide) rfl
  have hKc := hK.sub (tys' := []) [] rfl
  have hFc : ∀ q : Nat, s.heap.size ≤ q → A q := fun q h => hA q (Nat.le_trans hS.1 h)
  refine va_callq (va_runV (As := [.int p0]) (rest := []) ⟨hx, hb, hml, hown, hts⟩ (c_X7_stoneAt l dC dI e0 h0 p0 hd hse hki hma hst hsp hlp htl s.heap.size) (cwV 1 hts (goodIn_sub (fun _ h9 => List.mem_cons_of_mem _ (List.mem_append_right _ (List.mem_append_left _ h9))) (by decide +kernel)) rfl rfl rfl (by decide +kernel) ⟨(Nat.le_of_ble_eq_true rfl), (Nat.le_of_ble_eq_true rfl)⟩) ⟨fz_blind, va_recv hKc hPc (ci := 12) (q0 := 0) rfl rfl, fz_pre hPc hKc hDc hAm hS hFc⟩ rfl rfl hl.1 rfl (lv_room (Nat.le_of_ble_eq_true rfl)) dX7_set_2 ⟨(Nat.le_of_ble_eq_true rfl), (Nat.le_of_ble_eq_true rfl)⟩) hS (fun q _ h => hFc q h) hFc (fun r u t H1 locs ht hvm hw hB hz1 hk1 hS => ?_)
  obtain rfl := hw
  have hP := fz_keep hP hk1
  generalize H1 = H at hP hS ⊢
  have hP : va_P (dC, dI) vwCl [(h0, .inr (12, [.ref hd, .ref hse, .ref hki, .ref hma, .ref hst, .ref hsp, .ref hlp, .ref htl, .int 0, .int 0, .int 0, .int 0, .int 0, .int 0, .int 0, .long ((0 : Int32).toInt64)])), (hd, .inr (6, [.ref hj, .ref hpr, .ref hqd, .int 0, .int 0, .int 1]))] H := hP
  refine W.widen (k := 0) (n := 0) (Nat.le_of_ble_eq_true rfl) (Nat.le_of_ble_eq_true rfl) ?_
  refine lv_astore_nN (lv' := [(3, .null), (0, .ref h0), (1, .int p0), (2, .int p1)]) hx hb dX7_set_5 rfl hl (by decide) rfl (fun ls hl => ?_)
  refine lv_aload_n hx hb dX7_set_6 rfl (lv_at hl 1 rfl) ?_
  refine va_get (D := (dC, dI)) (ci := 12) (v := .ref hd) (C := RX7) (T := TX7) (N := 16) hx hb hts (fun _ h9 => List.mem_cons_of_mem _ (List.mem_append_right _ (List.mem_append_right _ (List.mem_append_left _ h9)))) hown hK hP 0 rfl rfl 0 (by decide) (hts _ (List.mem_cons_of_mem _ (List.mem_append_left _ (List.mem_of_getElem? (i := 0) rfl)))) (fun _ h9 => h9) rfl dX7_set_7 ?_
  refine lv_iload_n hx hb dX7_set_10 rfl (lv_at hl 3 rfl) ?_
  have hPc := hP.sub (ws' := [(hd, .inr (6, [.ref hj, .ref hpr, .ref hqd, .int 0, .int 0, .int 1]))]) [1] rfl
  have hDc := hD.sub (ws' := [(hd, .inr (6, [.ref hj, .ref hpr, .ref hqd, .int 0, .int 0, .int 1]))]) [1] (by decide) rfl
  have hKc := hK.sub (tys' := []) [] rfl
  have hFc : ∀ q : Nat, H.size ≤ q → A q := fun q h => hA q (Nat.le_trans hS.1 h)
  refine va_callq (va_runV (As := [.int p1]) (rest := []) ⟨hx, hb, hml, hown, hts⟩ (c_X1_quadOf l dC dI e0 hd p1 hj hpr hqd H.size) (cwV 1 hts (goodIn_sub (fun _ h9 => List.mem_cons_of_mem _ (List.mem_append_right _ (List.mem_append_right _ (List.mem_append_right _ (List.mem_append_left _ h9))))) (by decide +kernel)) rfl rfl rfl (by decide +kernel) ⟨(Nat.le_of_ble_eq_true rfl), (Nat.le_of_ble_eq_true rfl)⟩) ⟨fz_blind, va_recv hKc hPc (ci := 6) (q0 := 0) rfl rfl, fz_pre hPc hKc hDc hAm hS hFc⟩ rfl rfl hl.1 rfl (lv_room (Nat.le_of_ble_eq_true rfl)) dX7_set_11 ⟨(Nat.le_of_ble_eq_true rfl), (Nat.le_of_ble_eq_true rfl)⟩) hS (fun q _ h => hFc q h) hFc (fun r u t H1 locs ht hvm hw hB hz1 hk1 hS => ?_)
  obtain rfl := hw
  have hP := fz_keep hP hk1
  generalize H1 = H at hP hS ⊢
  have hP : va_P (dC, dI) vwCl [(h0, .inr (12, [.ref hd, .ref hse, .ref hki, .ref hma, .ref hst, .ref hsp, .ref hlp, .ref htl, .int 0, .int 0, .int 0, .int 0, .int 0, .int 0, .int 0, .long ((0 : Int32).toInt64)])), (hd, .inr (6, [.ref hj, .ref hpr, .ref hqd, .int 0, .int 0, .int 1]))] H := hP
  refine W.widen (k := 0) (n := 0) (Nat.le_of_ble_eq_true rfl) (Nat.le_of_ble_eq_true rfl) ?_
  refine lv_astoreN (lv' := [(4, .null), (3, .null), (0, .ref h0), (1, .int p0), (2, .int p1)]) hx hb dX7_set_14 hl (by decide) rfl (fun ls hl => ?_)
  refine lv_aload_nN hx hb dX7_set_16 rfl (lv_at hl 1 rfl) ?_
  refine lv_ifnullN (tgt := 25) hx hb dX7_set_17 (by decide) ?_
  obtain ⟨sa_9, hst_9⟩ := hAm.1.2.2.2.2.2.1 _ fz_s_296
  have hq_9 : ∀ w ∈ fz_w_IndexOutOfBounds, w.before _ s = true := fun w h9 => hts w (List.mem_cons_of_mem _ (List.mem_append_right _ (List.mem_append_right _ (List.mem_append_right _ (List.mem_append_right _ h9)))))
  exact vx_throwSW (cls := "java/lang/IndexOutOfBoundsException") (text := "there is no such stone or place") (names := ["java/lang/RuntimeException", "java/lang/Exception"]) (ik := 123) (is := 296) (ic := 127) (sa := sa_9) hx hb hlT hown (by decide +kernel) fz_nm_IndexOutOfBounds (hq_9 _ List.mem_cons_self) (hq_9 _ (List.mem_cons_of_mem _ List.mem_cons_self)) hst_9 (fz_wf (ik := 0) hq_9 (fun _ h9 => List.mem_cons_of_mem _ (List.mem_cons_of_mem _ h9)) fz_ng_IndexOutOfBounds (hAm.1.2.1 _ fz_x_IndexOutOfBounds) hAm.1) fz_ot_IndexOutOfBounds hAm.2.1 hAm.2.2.1 hS (hl.1.trans hml.symm) dX7_set_25 dX7_set_28 dX7_set_29 dX7_set_32 dX7_set_35 (fun x h9 => (htab x h9).elim) (by decide) (by decide) (Nat.le_of_ble_eq_true rfl) (Nat.le_of_ble_eq_true rfl) hlocks (fun t _ h1_9 h2_9 => ⟨(), trivial, rfl, fz_xF hS h1_9 h2_9⟩) hS.2.2 (Nat.le_of_ble_eq_true rfl) (Nat.le_of_ble_eq_true rfl)
def v_c_X7_load : List Cond := .code yX7_load cX7_load 3 (some .boolean) :: ([.fieldLink RX7 10 "VoussoirYard" "drawing" "LVoussoirYard$Drawing;"] ++ (wsX70 ++ (wsV RX7 148 RX1 yX1_hasPlace v_c_X1_hasPlace ++ (fz_w_IndexOutOfBounds))))
set_option maxRecDepth 20000 in
theorem i_c_X7_load : ∀ w ∈ v_c_X7_load, w ∈ lw_tbl := List.forall_mem_cons.mpr ⟨List.mem_of_getElem? (i := 1242) (by decide +kernel), List.forall_mem_append.mpr ⟨List.forall_mem_cons.mpr ⟨List.mem_of_getElem? (i := 219) (by decide +kernel), fun _ h => absurd h List.not_mem_nil⟩, List.forall_mem_append.mpr ⟨inX7, List.forall_mem_append.mpr ⟨(by unfold wsV; exact List.forall_mem_append.mpr ⟨List.forall_mem_cons.mpr ⟨List.mem_of_getElem? (i := 640) (by decide +kernel), List.forall_mem_cons.mpr ⟨List.mem_of_getElem? (i := 641) (by decide +kernel), List.forall_mem_cons.mpr ⟨List.mem_of_getElem? (i := 642) (by decide +kernel), List.forall_mem_cons.mpr ⟨List.mem_of_getElem? (i := 50) (by decide +kernel), fun _ h => absurd h List.not_mem_nil⟩⟩⟩⟩, i_c_X1_hasPlace⟩), fz_wi_IndexOutOfBounds⟩⟩⟩⟩
set_option maxHeartbeats 4000000 in
set_option maxRecDepth 100000 in
theorem c_X7_load (l : Launch) (dC : Nat → ClassId) (dI : Nat → Nat → Nat) (e0 : Nat) (hlT : l.stackTraces = false) (h0 : Nat) (p0 p1 : Int32) (hd hse hki hma hst hsp hlp htl hj hpr hqd : Nat) (sz : Nat) : vx_Met l yX7_load v_c_X7_load ({ frames := 7, cells := 1, slots := 6, locals := 100 }) (fz_P (dC, dI) e0 [(h0, .inr (12, [.ref hd, .ref hse, .ref hki, .ref hma, .ref hst, .ref hsp, .ref hlp, .ref htl, .int 0, .int 0, .int 0, .int 0, .int 0, .int 0, .int 0, .long ((0 : Int32).toInt64)])), (hd, .inr (6, [.ref hj, .ref hpr, .ref hqd, .int 0, .int 0, .int 1]))] [] sz (fun q : Nat => sz ≤ q) [.ref h0, .int p0, .int p1]) (va_Qi (fun (r : Int32) (u : Unit) => False) (fun (u : Unit) (t : State) => True) (fun q : Nat => sz ≤ q)) (vx_X (fun _ : Unit => True) (fun (E : String) (_ : Unit) (_ : State) => (E = "java/lang/IndexOutOfBoundsException")) (fun q : Nat => sz ≤ q)) 1 6 (fun q : Nat => sz ≤ q) := by
  refine vx_ofW (cc := cX7_load) (maxL := 3) (ret := (some .boolean)) (by decide) rfl ?_
  intro p e s m args below meth c s₁ B hml htab hv
  obtain ⟨rfl, hsz, hP, hK, hD0, hAm⟩ := hv
  have hx := B.exec
  have hb := B.bytes
  have hr := B.returns
  have hts := atoms_spec (ws := v_c_X7_load) B.pre
  have hown : s.vm.findClass RX7 = some m.cls := findClass_of_methodNamed B.named
  have hlocks := B.notSynchronized
  subst hsz
  have hD := hD0
  generalize hAe : (fun q : Nat => s.heap.size ≤ q) = A at hAm ⊢
  have hA : ∀ q : Nat, s.heap.size ≤ q → A q := fun q h => by rw [← hAe]; exact h
  have hS : va_S A s.heap s.heap [] := va_S.rf
  have hP : va_P (dC, dI) vwCl [(h0, .inr (12, [.ref hd, .ref hse, .ref hki, .ref hma, .ref hst, .ref hsp, .ref hlp, .ref htl, .int 0, .int 0, .int 0, .int 0, .int 0, .int 0, .int 0, .long ((0 : Int32).toInt64)])), (hd, .inr (6, [.ref hj, .ref hpr, .ref hqd, .int 0, .int 0, .int 1]))] s.heap := hP
  have hl := lv_entry ([.ref h0, .int p0, .int p1]) (n := 3) (Nat.le_of_ble_eq_true rfl)
  rw [lg_entry_eq]
  generalize (lg_sl ([.ref h0, .int p0, .int p1]) ++ List.replicate (3 - (lg_sl ([.ref h0, .int p0, .int p1])).length) Slot.unset).toArray = ls at hl ⊢
  have hl : lv_has ls 3 [(0, .ref h0), (1, .int p0), (2, .int p1)] := hl
  refine lv_aload_n hx hb dX7_load_0 rfl (lv_at hl 0 rfl) ?_
  refine va_get (D := (dC, dI)) (ci := 12) (v := .ref hd) (C := RX7) (T := TX7) (N := 16) hx hb hts (fun _ h9 => List.mem_cons_of_mem _ (List.mem_append_right _ (List.mem_append_left _ h9))) hown hK hP 0 rfl rfl 0 (by decide) (hts _ (List.mem_cons_of_mem _ (List.mem_append_left _ (List.mem_of_getElem? (i := 0) rfl)))) (fun _ h9 => h9) rfl dX7_load_1 ?_
  refine lv_iload_n hx hb dX7_load_4 rfl (lv_at hl 1 rfl) ?_
  have hPc := hP.sub (ws' := [(hd, .inr (6, [.ref hj, .ref hpr, .ref hqd, .int 0, .int 0, .int 1]))]) [1] rfl
  have hDc := hD.sub (ws' := [(hd, .inr (6, [.ref hj, .ref hpr, .ref hqd, .int 0, .int 0, .int 1]))]) [1] (by decide) rfl
  have hKc := hK.sub (tys' := []) [] rfl
  have hFc : ∀ q : Nat, s.heap.size ≤ q → A q := fun q h => hA q (Nat.le_trans hS.1 h)
  refine va_calli (va_runV (As := [.int p0]) (rest := []) ⟨hx, hb, hml, hown, hts⟩ (c_X1_hasPlace l dC dI e0 hd p0 hj hpr hqd s.heap.size) (cwV 1 hts (goodIn_sub (fun _ h9 => List.mem_cons_of_mem _ (List.mem_append_right _ (List.mem_append_right _ (List.mem_append_left _ h9)))) (by decide +kernel)) rfl rfl rfl (by decide +kernel) ⟨(Nat.le_of_ble_eq_true rfl), (Nat.le_of_ble_eq_true rfl)⟩) ⟨fz_blind, va_recv hKc hPc (ci := 6) (q0 := 0) rfl rfl, fz_pre hPc hKc hDc hAm hS hFc⟩ rfl rfl hl.1 rfl (lv_room (Nat.le_of_ble_eq_true rfl)) dX7_load_5 ⟨(Nat.le_of_ble_eq_true rfl), (Nat.le_of_ble_eq_true rfl)⟩) hS (fun q _ h => hFc q h) hFc (fun r u t H1 locs ht hvm hw hB hz1 hk1 hS => ?_)
  obtain rfl := hw
  have hP := fz_keep hP hk1
  generalize H1 = H at hP hS ⊢
  have hP : va_P (dC, dI) vwCl [(h0, .inr (12, [.ref hd, .ref hse, .ref hki, .ref hma, .ref hst, .ref hsp, .ref hlp, .ref htl, .int 0, .int 0, .int 0, .int 0, .int 0, .int 0, .int 0, .long ((0 : Int32).toInt64)])), (hd, .inr (6, [.ref hj, .ref hpr, .ref hqd, .int 0, .int 0, .int 1]))] H := hP
  refine W.widen (k := 0) (n := 0) (Nat.le_of_ble_eq_true rfl) (Nat.le_of_ble_eq_true rfl) ?_
  refine lv_if_ne (tgt := 21) hx hb dX7_load_8 (by decide) (fun c_9 => absurd (by decide) c_9) (fun _ => ?_)
  obtain ⟨sa_9, hst_9⟩ := hAm.1.2.2.2.2.2.1 _ fz_s_151
  have hq_9 : ∀ w ∈ fz_w_IndexOutOfBounds, w.before _ s = true := fun w h9 => hts w (List.mem_cons_of_mem _ (List.mem_append_right _ (List.mem_append_right _ (List.mem_append_right _ h9))))
  exact vx_throwS (cls := "java/lang/IndexOutOfBoundsException") (text := "there is no such place") (names := ["java/lang/RuntimeException", "java/lang/Exception"]) (ik := 123) (is := 151) (ic := 127) (sa := sa_9) hx hb hlT hown (by decide +kernel) fz_nm_IndexOutOfBounds (hq_9 _ List.mem_cons_self) (hq_9 _ (List.mem_cons_of_mem _ List.mem_cons_self)) hst_9 (fz_wf (ik := 0) hq_9 (fun _ h9 => List.mem_cons_of_mem _ (List.mem_cons_of_mem _ h9)) fz_ng_IndexOutOfBounds (hAm.1.2.1 _ fz_x_IndexOutOfBounds) hAm.1) fz_ot_IndexOutOfBounds hAm.2.1 hAm.2.2.1 hS (hl.1.trans hml.symm) dX7_load_11 dX7_load_14 dX7_load_15 dX7_load_17 dX7_load_20 (fun x h9 => (htab x h9).elim) (by decide) (by decide) (Nat.le_of_ble_eq_true rfl) (Nat.le_of_ble_eq_true rfl) hlocks (fun t _ h1_9 h2_9 => ⟨(), trivial, rfl, fz_xF hS h1_9 h2_9⟩) hS.2.2 (Nat.le_of_ble_eq_true rfl) (Nat.le_of_ble_eq_true rfl)
def v_c_X7_setCentre : List Cond := .code yX7_setCentre cX7_setCentre 2 (some .int) :: ([.constant RX7 305 99999, .fieldLink RX7 61 "VoussoirYard" "centreStrength" "I", .fieldLink RX7 64 "VoussoirYard" "isStanding" "Z", .fieldLink RX7 10 "VoussoirYard" "drawing" "LVoussoirYard$Drawing;"] ++ (wsS RX7 205 yX7_isBetween v_c_X7_isBetween ++ (wsX70 ++ (wsV RX7 310 RX1 yX1_weightOfAll v_c_X1_weightOfAll ++ (fz_w_IllegalArgument)))))
set_option maxRecDepth 20000 in
theorem i_c_X7_setCentre : ∀ w ∈ v_c_X7_setCentre, w ∈ lw_tbl := List.forall_mem_cons.mpr ⟨List.mem_of_getElem? (i := 1193) (by decide +kernel), List.forall_mem_append.mpr ⟨List.forall_mem_cons.mpr ⟨List.mem_of_getElem? (i := 1194) (by decide +kernel), List.forall_mem_cons.mpr ⟨List.mem_of_getElem? (i := 230) (by decide +kernel), List.forall_mem_cons.mpr ⟨List.mem_of_getElem? (i := 231) (by decide +kernel), List.forall_mem_cons.mpr ⟨List.mem_of_getElem? (i := 219) (by decide +kernel), fun _ h => absurd h List.not_mem_nil⟩⟩⟩⟩, List.forall_mem_append.mpr ⟨(by unfold wsS; exact List.forall_mem_append.mpr ⟨List.forall_mem_cons.mpr ⟨List.mem_of_getElem? (i := 720) (by decide +kernel), List.forall_mem_cons.mpr ⟨List.mem_of_getElem? (i := 721) (by decide +kernel), List.forall_mem_cons.mpr ⟨List.mem_of_getElem? (i := 49) (by decide +kernel), fun _ h => absurd h List.not_mem_nil⟩⟩⟩, i_c_X7_isBetween⟩), List.forall_mem_append.mpr ⟨inX7, List.forall_mem_append.mpr ⟨(by unfold wsV; exact List.forall_mem_append.mpr ⟨List.forall_mem_cons.mpr ⟨List.mem_of_getElem? (i := 1197) (by decide +kernel), List.forall_mem_cons.mpr ⟨List.mem_of_getElem? (i := 1198) (by decide +kernel), List.forall_mem_cons.mpr ⟨List.mem_of_getElem? (i := 1199) (by decide +kernel), List.forall_mem_cons.mpr ⟨List.mem_of_getElem? (i := 50) (by decide +kernel), fun _ h => absurd h List.not_mem_nil⟩⟩⟩⟩, i_c_X1_weightOfAll⟩), fz_wi_IllegalArgument⟩⟩⟩⟩⟩
set_option maxHeartbeats 4000000 in
set_option maxRecDepth 100000 in
theorem c_X7_setCentre (l : Launch) (dC : Nat → ClassId) (dI : Nat → Nat → Nat) (e0 : Nat) (hlT : l.stackTraces = false) (h0 : Nat) (p0 : Int32) (hd hse hki hma hst hsp hlp htl hj hpr hqd : Nat) (sz : Nat) : vx_Met l yX7_setCentre v_c_X7_setCentre ({ frames := 7, cells := 1, slots := 6, locals := 100 }) (fz_P (dC, dI) e0 [(h0, .inr (12, [.ref hd, .ref hse, .ref hki, .ref hma, .ref hst, .ref hsp, .ref hlp, .ref htl, .int 0, .int 0, .int 0, .int 0, .int 0, .int 0, .int 0, .long ((0 : Int32).toInt64)])), (hd, .inr (6, [.ref hj, .ref hpr, .ref hqd, .int 0, .int 0, .int 1]))] [] sz (va_A [(h0, .inr (12, [.ref hd, .ref hse, .ref hki, .ref hma, .ref hst, .ref hsp, .ref hlp, .ref htl, .int 0, .int 0, .int 0, .int 0, .int 0, .int 0, .int 0, .long ((0 : Int32).toInt64)])), (hd, .inr (6, [.ref hj, .ref hpr, .ref hqd, .int 0, .int 0, .int 1]))] sz) [.ref h0, .int p0]) (va_Qi (fun (r : Int32) (u : Unit) => r = 0 ∧ fz_in p0 1 99999) (fun (u : Unit) (t : State) => True) (va_A [(h0, .inr (12, [.ref hd, .ref hse, .ref hki, .ref hma, .ref hst, .ref hsp, .ref hlp, .ref htl, .int 0, .int 0, .int 0, .int 0, .int 0, .int 0, .int 0, .long ((0 : Int32).toInt64)])), (hd, .inr (6, [.ref hj, .ref hpr, .ref hqd, .int 0, .int 0, .int 1]))] sz)) (vx_X (fun _ : Unit => True) (fun (E : String) (_ : Unit) (_ : State) => (E = "java/lang/IllegalArgumentException" ∧ ¬ fz_in p0 1 99999)) (va_A [(h0, .inr (12, [.ref hd, .ref hse, .ref hki, .ref hma, .ref hst, .ref hsp, .ref hlp, .ref htl, .int 0, .int 0, .int 0, .int 0, .int 0, .int 0, .int 0, .long ((0 : Int32).toInt64)])), (hd, .inr (6, [.ref hj, .ref hpr, .ref hqd, .int 0, .int 0, .int 1]))] sz)) 1 6 (va_A [(h0, .inr (12, [.ref hd, .ref hse, .ref hki, .ref hma, .ref hst, .ref hsp, .ref hlp, .ref htl, .int 0, .int 0, .int 0, .int 0, .int 0, .int 0, .int 0, .long ((0 : Int32).toInt64)])), (hd, .inr (6, [.ref hj, .ref hpr, .ref hqd, .int 0, .int 0, .int 1]))] sz) := by
  refine vx_ofW (cc := cX7_setCentre) (maxL := 2) (ret := (some .int)) (by decide) rfl ?_
  intro p e s m args below meth c s₁ B hml htab hv
  obtain ⟨rfl, hsz, hP, hK, hD0, hAm⟩ := hv
  have hx := B.exec
  have hb := B.bytes
  have hr := B.returns
  have hts := atoms_spec (ws := v_c_X7_setCentre) B.pre
  have hown : s.vm.findClass RX7 = some m.cls := findClass_of_methodNamed B.named
  have hlocks := B.notSynchronized
  subst hsz
  have hD := hD0.self (sz := s.heap.size)
  generalize hAe : va_A [(h0, .inr (12, [.ref hd, .ref hse, .ref hki, .ref hma, .ref hst, .ref hsp, .ref hlp, .ref htl, .int 0, .int 0, .int 0, .int 0, .int 0, .int 0, .int 0, .long ((0 : Int32).toInt64)])), (hd, .inr (6, [.ref hj, .ref hpr, .ref hqd, .int 0, .int 0, .int 1]))] s.heap.size = A at hD hAm ⊢
  have hA : ∀ q : Nat, s.heap.size ≤ q → A q := fun q h => by rw [← hAe]; exact Or.inr h
  have hS : va_S A s.heap s.heap [] := va_S.rf
  have hP : va_P (dC, dI) vwCl [(h0, .inr (12, [.ref hd, .ref hse, .ref hki, .ref hma, .ref hst, .ref hsp, .ref hlp, .ref htl, .int 0, .int 0, .int 0, .int 0, .int 0, .int 0, .int 0, .long ((0 : Int32).toInt64)])), (hd, .inr (6, [.ref hj, .ref hpr, .ref hqd, .int 0, .int 0, .int 1]))] s.heap := hP
  have hl := lv_entry ([.ref h0, .int p0]) (n := 2) (Nat.le_of_ble_eq_true rfl)
  rw [lg_entry_eq]
  generalize (lg_sl ([.ref h0, .int p0]) ++ List.replicate (2 - (lg_sl ([.ref h0, .int p0])).length) Slot.unset).toArray = ls at hl ⊢
  have hl : lv_has ls 2 [(0, .ref h0), (1, .int p0)] := hl
  refine lv_iload_n hx hb dX7_setCentre_0 rfl (lv_at hl 1 rfl) ?_
  refine lv_iconst (v := 1) hx hb dX7_setCentre_1 (by decide) ?_
  refine lv_ldcw (v := 99999) hx hb hown (hts _ (List.mem_cons_of_mem _ (List.mem_append_left _ (List.mem_of_getElem? (i := 0) rfl)))) dX7_setCentre_2 ?_
  have hPc := hP.sub (ws' := []) [] rfl
  have hDc := hD.sub (ws' := []) [] (by decide) rfl
  have hKc := hK.sub (tys' := []) [] rfl
  have hFc : ∀ q : Nat, s.heap.size ≤ q → A q := fun q h => hA q (Nat.le_trans hS.1 h)
  refine va_calli (va_runS (As := [.int p0, .int 1, .int 99999]) (rest := []) ⟨hx, hb, hml, hown, hts⟩ (c_X7_isBetween l dC dI e0 p0 1 99999 s.heap.size) (cwS 3 hts (goodIn_sub (fun _ h9 => List.mem_cons_of_mem _ (List.mem_append_right _ (List.mem_append_left _ h9))) (by decide +kernel)) rfl rfl rfl (by decide +kernel) ⟨(Nat.le_of_ble_eq_true rfl), (Nat.le_of_ble_eq_true rfl)⟩) ⟨fz_blind, fz_pre hPc hKc hDc hAm hS hFc⟩ rfl rfl hl.1 rfl (lv_room (Nat.le_of_ble_eq_true rfl)) dX7_setCentre_5 ⟨(Nat.le_of_ble_eq_true rfl), (Nat.le_of_ble_eq_true rfl)⟩) hS (fun q _ h => hFc q h) hFc (fun r u t H1 locs ht hvm hw hB hz1 hk1 hS => ?_)
  rcases hw with ⟨rfl, hp_1⟩ | ⟨rfl, hp_2⟩
  · have hP := fz_keep hP hk1
    generalize H1 = H at hP hS ⊢
    have hP : va_P (dC, dI) vwCl [(h0, .inr (12, [.ref hd, .ref hse, .ref hki, .ref hma, .ref hst, .ref hsp, .ref hlp, .ref htl, .int 0, .int 0, .int 0, .int 0, .int 0, .int 0, .int 0, .long ((0 : Int32).toInt64)])), (hd, .inr (6, [.ref hj, .ref hpr, .ref hqd, .int 0, .int 0, .int 1]))] H := hP
    have hD : va_D A [(h0, .inr (12, [.ref hd, .ref hse, .ref hki, .ref hma, .ref hst, .ref hsp, .ref hlp, .ref htl, .int 0, .int 0, .int 0, .int 0, .int 0, .int 0, .int 0, .long ((0 : Int32).toInt64)])), (hd, .inr (6, [.ref hj, .ref hpr, .ref hqd, .int 0, .int 0, .int 1]))] := hD
    refine W.widen (k := 0) (n := 0) (Nat.le_of_ble_eq_true rfl) (Nat.le_of_ble_eq_true rfl) ?_
    refine lv_if_ne (tgt := 22) hx hb dX7_setCentre_8 (by decide) (fun _ => ?_) (fun c_9 => absurd c_9 (by decide))
    refine lv_aload_n hx hb dX7_setCentre_22 rfl (lv_at hl 0 rfl) ?_
    refine va_get (D := (dC, dI)) (ci := 12) (v := .int 0) (C := RX7) (T := TX7) (N := 16) hx hb hts (fun _ h9 => List.mem_cons_of_mem _ (List.mem_append_right _ (List.mem_append_right _ (List.mem_append_left _ h9)))) hown hK hP 0 rfl rfl 11 (by decide) (hts _ (List.mem_cons_of_mem _ (List.mem_append_left _ (List.mem_of_getElem? (i := 1) rfl)))) (fun _ h9 => h9) rfl dX7_setCentre_23 ?_
    refine lv_if_ne (tgt := 36) hx hb dX7_setCentre_26 (by decide) (fun c_9 => absurd (by decide) c_9) (fun _ => ?_)
    refine lv_aload_n hx hb dX7_setCentre_29 rfl (lv_at hl 0 rfl) ?_
    refine va_get (D := (dC, dI)) (ci := 12) (v := .int 0) (C := RX7) (T := TX7) (N := 16) hx hb hts (fun _ h9 => List.mem_cons_of_mem _ (List.mem_append_right _ (List.mem_append_right _ (List.mem_append_left _ h9)))) hown hK hP 0 rfl rfl 12 (by decide) (hts _ (List.mem_cons_of_mem _ (List.mem_append_left _ (List.mem_of_getElem? (i := 2) rfl)))) (fun _ h9 => h9) rfl dX7_setCentre_30 ?_
    refine lv_if_eq (tgt := 47) hx hb dX7_setCentre_33 (by decide) (fun _ => ?_) (fun c_9 => absurd (by decide) c_9)
    refine lv_aload_n hx hb dX7_setCentre_47 rfl (lv_at hl 0 rfl) ?_
    refine lv_iload_n hx hb dX7_setCentre_48 rfl (lv_at hl 1 rfl) ?_
    refine va_put (D := (dC, dI)) (ci := 12) (v := .int p0) (ty := .int) (C := RX7) (T := TX7) (N := 16) hx hb hts (fun _ h9 => List.mem_cons_of_mem _ (List.mem_append_right _ (List.mem_append_right _ (List.mem_append_left _ h9)))) tyX7 tyX7_ok nmX7 hown hK hP hD hS 0 rfl rfl 11 (by decide) (hts _ (List.mem_cons_of_mem _ (List.mem_append_left _ (List.mem_of_getElem? (i := 1) rfl)))) (fun _ h9 => h9) rfl (by decide +kernel) rfl rfl (Nat.le_of_ble_eq_true rfl) dX7_setCentre_49 (fun H locs hP hD hS => ?_)
    have hP : va_P (dC, dI) vwCl [(h0, .inr (12, [.ref hd, .ref hse, .ref hki, .ref hma, .ref hst, .ref hsp, .ref hlp, .ref htl, .int 0, .int 0, .int 0, .int p0, .int 0, .int 0, .int 0, .long ((0 : Int32).toInt64)])), (hd, .inr (6, [.ref hj, .ref hpr, .ref hqd, .int 0, .int 0, .int 1]))] H := hP
    have hD : va_D A [(h0, .inr (12, [.ref hd, .ref hse, .ref hki, .ref hma, .ref hst, .ref hsp, .ref hlp, .ref htl, .int 0, .int 0, .int 0, .int p0, .int 0, .int 0, .int 0, .long ((0 : Int32).toInt64)])), (hd, .inr (6, [.ref hj, .ref hpr, .ref hqd, .int 0, .int 0, .int 1]))] := hD
    refine lv_aload_n hx hb dX7_setCentre_52 rfl (lv_at hl 0 rfl) ?_
    refine va_get (D := (dC, dI)) (ci := 12) (v := .ref hd) (C := RX7) (T := TX7) (N := 16) hx hb hts (fun _ h9 => List.mem_cons_of_mem _ (List.mem_append_right _ (List.mem_append_right _ (List.mem_append_left _ h9)))) hown hK hP 0 rfl rfl 0 (by decide) (hts _ (List.mem_cons_of_mem _ (List.mem_append_left _ (List.mem_of_getElem? (i := 3) rfl)))) (fun _ h9 => h9) rfl dX7_setCentre_53 ?_
    have hPc := hP.sub (ws' := [(hd, .inr (6, [.ref hj, .ref hpr, .ref hqd, .int 0, .int 0, .int 1]))]) [1] rfl
    have hDc := hD.sub (ws' := [(hd, .inr (6, [.ref hj, .ref hpr, .ref hqd, .int 0, .int 0, .int 1]))]) [1] (by decide) rfl
    have hKc := hK.sub (tys' := []) [] rfl
    have hFc : ∀ q : Nat, H.size ≤ q → A q := fun q h => hA q (Nat.le_trans hS.1 h)
    refine va_calli (va_runV (As := []) (rest := []) ⟨hx, hb, hml, hown, hts⟩ (c_X1_weightOfAll l dC dI e0 hd hj hpr hqd H.size) (cwV 0 hts (goodIn_sub (fun _ h9 => List.mem_cons_of_mem _ (List.mem_append_right _ (List.mem_append_right _ (List.mem_append_right _ (List.mem_append_left _ h9))))) (by decide +kernel)) rfl rfl rfl (by decide +kernel) ⟨(Nat.le_of_ble_eq_true rfl), (Nat.le_of_ble_eq_true rfl)⟩) ⟨fz_blind, va_recv hKc hPc (ci := 6) (q0 := 0) rfl rfl, fz_pre hPc hKc hDc hAm hS hFc⟩ rfl rfl hl.1 rfl (lv_room (Nat.le_of_ble_eq_true rfl)) dX7_setCentre_56 ⟨(Nat.le_of_ble_eq_true rfl), (Nat.le_of_ble_eq_true rfl)⟩) hS (fun q _ h => hFc q h) hFc (fun r u t H1 locs ht hvm hw hB hz1 hk1 hS => ?_)
    obtain rfl := hw
    have hP := fz_keep hP hk1
    generalize H1 = H at hP hS ⊢
    have hP : va_P (dC, dI) vwCl [(h0, .inr (12, [.ref hd, .ref hse, .ref hki, .ref hma, .ref hst, .ref hsp, .ref hlp, .ref htl, .int 0, .int 0, .int 0, .int p0, .int 0, .int 0, .int 0, .long ((0 : Int32).toInt64)])), (hd, .inr (6, [.ref hj, .ref hpr, .ref hqd, .int 0, .int 0, .int 1]))] H := hP
    have hD : va_D A [(h0, .inr (12, [.ref hd, .ref hse, .ref hki, .ref hma, .ref hst, .ref hsp, .ref hlp, .ref htl, .int 0, .int 0, .int 0, .int p0, .int 0, .int 0, .int 0, .long ((0 : Int32).toInt64)])), (hd, .inr (6, [.ref hj, .ref hpr, .ref hqd, .int 0, .int 0, .int 1]))] := hD
    refine W.widen (k := 0) (n := 0) (Nat.le_of_ble_eq_true rfl) (Nat.le_of_ble_eq_true rfl) ?_
    refine W.widen (k := 1) (n := 6) (Nat.le_of_ble_eq_true rfl) (Nat.le_of_ble_eq_true rfl) ?_
    refine vx_ret ?_
    exact W.iret (v := 0) hx hb hr (fun t ht hW => ⟨⟨0, (), rfl, ⟨rfl, hp_1⟩, trivial⟩, hS.F ht⟩) hS.2.2 dX7_setCentre_59
  · have hP := fz_keep hP hk1
    generalize H1 = H at hP hS ⊢
    have hP : va_P (dC, dI) vwCl [(h0, .inr (12, [.ref hd, .ref hse, .ref hki, .ref hma, .ref hst, .ref hsp, .ref hlp, .ref htl, .int 0, .int 0, .int 0, .int 0, .int 0, .int 0, .int 0, .long ((0 : Int32).toInt64)])), (hd, .inr (6, [.ref hj, .ref hpr, .ref hqd, .int 0, .int 0, .int 1]))] H := hP
    have hD : va_D A [(h0, .inr (12, [.ref hd, .ref hse, .ref hki, .ref hma, .ref hst, .ref hsp, .ref hlp, .ref htl, .int 0, .int 0, .int 0, .int 0, .int 0, .int 0, .int 0, .long ((0 : Int32).toInt64)])), (hd, .inr (6, [.ref hj, .ref hpr, .ref hqd, .int 0, .int 0, .int 1]))] := hD
    refine W.widen (k := 0) (n := 0) (Nat.le_of_ble_eq_true rfl) (Nat.le_of_ble_eq_true rfl) ?_
    refine lv_if_ne (tgt := 22) hx hb dX7_setCentre_8 (by decide) (fun c_9 => absurd (by decide) c_9) (fun _ => ?_)
    obtain ⟨sa_9, hst_9⟩ := hAm.1.2.2.2.2.2.1 _ fz_s_306
    have hq_9 : ∀ w ∈ fz_w_IllegalArgument, w.before _ s = true := fun w h9 => hts w (List.mem_cons_of_mem _ (List.mem_append_right _ (List.mem_append_right _ (List.mem_append_right _ (List.mem_append_right _ h9)))))
    exact vx_throwSW (cls := "java/lang/IllegalArgumentException") (text := "the strength is out of range") (names := ["java/lang/RuntimeException", "java/lang/Exception"]) (ik := 85) (is := 306) (ic := 89) (sa := sa_9) hx hb hlT hown (by decide +kernel) fz_nm_IllegalArgument (hq_9 _ List.mem_cons_self) (hq_9 _ (List.mem_cons_of_mem _ List.mem_cons_self)) hst_9 (fz_wf (ik := 0) hq_9 (fun _ h9 => List.mem_cons_of_mem _ (List.mem_cons_of_mem _ h9)) fz_ng_IllegalArgument (hAm.1.2.1 _ fz_x_IllegalArgument) hAm.1) fz_ot_IllegalArgument hAm.2.1 hAm.2.2.1 hS (hl.1.trans hml.symm) dX7_setCentre_11 dX7_setCentre_14 dX7_setCentre_15 dX7_setCentre_18 dX7_setCentre_21 (fun x h9 => (htab x h9).elim) (by decide) (by decide) (Nat.le_of_ble_eq_true rfl) (Nat.le_of_ble_eq_true rfl) hlocks (fun t _ h1_9 h2_9 => ⟨(), trivial, ⟨rfl, hp_2⟩, fz_xF hS h1_9 h2_9⟩) hS.2.2 (Nat.le_of_ble_eq_true rfl) (Nat.le_of_ble_eq_true rfl)
def v_c_X7_strike : List Cond := .code yX7_strike cX7_strike 3 (some .long) :: ([.fieldLink RX7 61 "VoussoirYard" "centreStrength" "I"] ++ (wsX70 ++ (fz_w_UnsupportedOperation)))
set_option maxRecDepth 20000 in
theorem i_c_X7_strike : ∀ w ∈ v_c_X7_strike, w ∈ lw_tbl := List.forall_mem_cons.mpr ⟨List.mem_of_getElem? (i := 1233) (by decide +kernel), List.forall_mem_append.mpr ⟨List.forall_mem_cons.mpr ⟨List.mem_of_getElem? (i := 230) (by decide +kernel), fun _ h => absurd h List.not_mem_nil⟩, List.forall_mem_append.mpr ⟨inX7, fz_wi_UnsupportedOperation⟩⟩⟩
set_option maxHeartbeats 4000000 in
set_option maxRecDepth 100000 in
theorem c_X7_strike (l : Launch) (dC : Nat → ClassId) (dI : Nat → Nat → Nat) (e0 : Nat) (hlT : l.stackTraces = false) (h0 hd hse hki hma hst hsp hlp htl : Nat) (sz : Nat) : vx_Met l yX7_strike v_c_X7_strike ({ frames := 7, cells := 1, slots := 6, locals := 100 }) (fz_P (dC, dI) e0 [(h0, .inr (12, [.ref hd, .ref hse, .ref hki, .ref hma, .ref hst, .ref hsp, .ref hlp, .ref htl, .int 0, .int 0, .int 0, .int 0, .int 0, .int 0, .int 0, .long ((0 : Int32).toInt64)]))] [] sz (fun q : Nat => sz ≤ q) [.ref h0]) (va_Ql (fun (r : Int64) (u : Unit) => False) (fun (u : Unit) (t : State) => True) (fun q : Nat => sz ≤ q)) (vx_X (fun _ : Unit => True) (fun (E : String) (_ : Unit) (_ : State) => (E = "java/lang/UnsupportedOperationException")) (fun q : Nat => sz ≤ q)) 1 6 (fun q : Nat => sz ≤ q) := by
  refine vx_ofW (cc := cX7_strike) (maxL := 3) (ret := (some .long)) (by decide) rfl ?_
  intro p e s m args below meth c s₁ B hml htab hv
  obtain ⟨rfl, hsz, hP, hK, hD0, hAm⟩ := hv
  have hx := B.exec
  have hb := B.bytes
  have hr := B.returns
  have hts := atoms_spec (ws := v_c_X7_strike) B.pre
  have hown : s.vm.findClass RX7 = some m.cls := findClass_of_methodNamed B.named
  have hlocks := B.notSynchronized
  subst hsz
  have hD := hD0
  generalize hAe : (fun q : Nat => s.heap.size ≤ q) = A at hAm ⊢
  have hA : ∀ q : Nat, s.heap.size ≤ q → A q := fun q h => by rw [← hAe]; exact h
  have hS : va_S A s.heap s.heap [] := va_S.rf
  have hP : va_P (dC, dI) vwCl [(h0, .inr (12, [.ref hd, .ref hse, .ref hki, .ref hma, .ref hst, .ref hsp, .ref hlp, .ref htl, .int 0, .int 0, .int 0, .int 0, .int 0, .int 0, .int 0, .long ((0 : Int32).toInt64)]))] s.heap := hP
  have hl := lv_entry ([.ref h0]) (n := 3) (Nat.le_of_ble_eq_true rfl)
  rw [lg_entry_eq]
  generalize (lg_sl ([.ref h0]) ++ List.replicate (3 - (lg_sl ([.ref h0])).length) Slot.unset).toArray = ls at hl ⊢
  have hl : lv_has ls 3 [(0, .ref h0)] := hl
  refine lv_aload_n hx hb dX7_strike_0 rfl (lv_at hl 0 rfl) ?_
  refine va_get (D := (dC, dI)) (ci := 12) (v := .int 0) (C := RX7) (T := TX7) (N := 16) hx hb hts (fun _ h9 => List.mem_cons_of_mem _ (List.mem_append_right _ (List.mem_append_left _ h9))) hown hK hP 0 rfl rfl 11 (by decide) (hts _ (List.mem_cons_of_mem _ (List.mem_append_left _ (List.mem_of_getElem? (i := 0) rfl)))) (fun _ h9 => h9) rfl dX7_strike_1 ?_
  refine lv_if_eq (tgt := 25) hx hb dX7_strike_4 (by decide) (fun _ => ?_) (fun c_9 => absurd (by decide) c_9)
  obtain ⟨sa_9, hst_9⟩ := hAm.1.2.2.2.2.2.1 _ fz_s_332
  have hq_9 : ∀ w ∈ fz_w_UnsupportedOperation, w.before _ s = true := fun w h9 => hts w (List.mem_cons_of_mem _ (List.mem_append_right _ (List.mem_append_right _ h9)))
  exact vx_throwSW (cls := "java/lang/UnsupportedOperationException") (text := "there is no centre, or not all places are filled, or too few") (names := ["java/lang/RuntimeException", "java/lang/Exception"]) (ik := 106) (is := 332) (ic := 110) (sa := sa_9) hx hb hlT hown (by decide +kernel) fz_nm_UnsupportedOperation (hq_9 _ List.mem_cons_self) (hq_9 _ (List.mem_cons_of_mem _ List.mem_cons_self)) hst_9 (fz_wf (ik := 0) hq_9 (fun _ h9 => List.mem_cons_of_mem _ (List.mem_cons_of_mem _ h9)) fz_ng_UnsupportedOperation (hAm.1.2.1 _ fz_x_UnsupportedOperation) hAm.1) fz_ot_UnsupportedOperation hAm.2.1 hAm.2.2.1 hS (hl.1.trans hml.symm) dX7_strike_25 dX7_strike_28 dX7_strike_29 dX7_strike_32 dX7_strike_35 (fun x h9 => (htab x h9).elim) (by decide) (by decide) (Nat.le_of_ble_eq_true rfl) (Nat.le_of_ble_eq_true rfl) hlocks (fun t _ h1_9 h2_9 => ⟨(), trivial, rfl, fz_xF hS h1_9 h2_9⟩) hS.2.2 (Nat.le_of_ble_eq_true rfl) (Nat.le_of_ble_eq_true rfl)
def v_c_X7_stands : List Cond := .code yX7_stands cX7_stands 1 (some .boolean) :: ([.fieldLink RX7 64 "VoussoirYard" "isStanding" "Z"] ++ (wsX70))
set_option maxRecDepth 20000 in
theorem i_c_X7_stands : ∀ w ∈ v_c_X7_stands, w ∈ lw_tbl := List.forall_mem_cons.mpr ⟨List.mem_of_getElem? (i := 300) (by decide +kernel), List.forall_mem_append.mpr ⟨List.forall_mem_cons.mpr ⟨List.mem_of_getElem? (i := 231) (by decide +kernel), fun _ h => absurd h List.not_mem_nil⟩, inX7⟩⟩
set_option maxHeartbeats 4000000 in
set_option maxRecDepth 100000 in
theorem c_X7_stands (l : Launch) (dC : Nat → ClassId) (dI : Nat → Nat → Nat) (e0 : Nat) (h0 hd hse hki hma hst hsp hlp htl : Nat) (sz : Nat) : Met l yX7_stands v_c_X7_stands ({ frames := 0, cells := 0, slots := 0, locals := 0 }) (fz_P (dC, dI) e0 [(h0, .inr (12, [.ref hd, .ref hse, .ref hki, .ref hma, .ref hst, .ref hsp, .ref hlp, .ref htl, .int 0, .int 0, .int 0, .int 0, .int 0, .int 0, .int 0, .long ((0 : Int32).toInt64)]))] [] sz (fun q : Nat => sz ≤ q) [.ref h0]) (va_Qi (fun (r : Int32) (u : Unit) => r = 0) (fun (u : Unit) (t : State) => True) (fun q : Nat => sz ≤ q)) 0 0 (fun q : Nat => sz ≤ q) := by
  refine Met.ofW (cc := cX7_stands) (maxL := 1) (ret := (some .boolean)) (by decide) rfl ?_
  intro p e s m args below meth c s₁ B hml hv
  obtain ⟨rfl, hsz, hP, hK, hD0, hAm⟩ := hv
  have hx := B.exec
  have hb := B.bytes
  have hr := B.returns
  have hts := atoms_spec (ws := v_c_X7_stands) B.pre
  have hown : s.vm.findClass RX7 = some m.cls := findClass_of_methodNamed B.named
  have hlocks := B.notSynchronized
  subst hsz
  have hD := hD0
  generalize hAe : (fun q : Nat => s.heap.size ≤ q) = A at hAm ⊢
  have hA : ∀ q : Nat, s.heap.size ≤ q → A q := fun q h => by rw [← hAe]; exact h
  have hS : va_S A s.heap s.heap [] := va_S.rf
  have hP : va_P (dC, dI) vwCl [(h0, .inr (12, [.ref hd, .ref hse, .ref hki, .ref hma, .ref hst, .ref hsp, .ref hlp, .ref htl, .int 0, .int 0, .int 0, .int 0, .int 0, .int 0, .int 0, .long ((0 : Int32).toInt64)]))] s.heap := hP
  have hl := lv_entry ([.ref h0]) (n := 1) (Nat.le_of_ble_eq_true rfl)
  rw [lg_entry_eq]
  generalize (lg_sl ([.ref h0]) ++ List.replicate (1 - (lg_sl ([.ref h0])).length) Slot.unset).toArray = ls at hl ⊢
  have hl : lv_has ls 1 [(0, .ref h0)] := hl
  refine lv_aload_n hx hb dX7_stands_0 rfl (lv_at hl 0 rfl) ?_
  refine va_get (D := (dC, dI)) (ci := 12) (v := .int 0) (C := RX7) (T := TX7) (N := 16) hx hb hts (fun _ h9 => List.mem_cons_of_mem _ (List.mem_append_right _ (h9))) hown hK hP 0 rfl rfl 12 (by decide) (hts _ (List.mem_cons_of_mem _ (List.mem_append_left _ (List.mem_of_getElem? (i := 0) rfl)))) (fun _ h9 => h9) rfl dX7_stands_1 ?_
  refine W.widen (k := 0) (n := 0) (Nat.le_of_ble_eq_true rfl) (Nat.le_of_ble_eq_true rfl) ?_
  exact W.zret (v := 0) hx hb hr rfl (fun t ht hW => ⟨⟨0, (), rfl, rfl, trivial⟩, hS.F ht⟩) hS.2.2 dX7_stands_4
def v_c_X7_pass : List Cond := .code yX7_pass cX7_pass 2 (some .int) :: ([.fieldLink RX7 68 "VoussoirYard" "today" "I"] ++ (wsS RX7 205 yX7_isBetween v_c_X7_isBetween ++ (wsX70 ++ (fz_w_IllegalArgument))))
set_option maxRecDepth 20000 in
theorem i_c_X7_pass : ∀ w ∈ v_c_X7_pass, w ∈ lw_tbl := List.forall_mem_cons.mpr ⟨List.mem_of_getElem? (i := 1255) (by decide +kernel), List.forall_mem_append.mpr ⟨List.forall_mem_cons.mpr ⟨List.mem_of_getElem? (i := 232) (by decide +kernel), fun _ h => absurd h List.not_mem_nil⟩, List.forall_mem_append.mpr ⟨(by unfold wsS; exact List.forall_mem_append.mpr ⟨List.forall_mem_cons.mpr ⟨List.mem_of_getElem? (i := 720) (by decide +kernel), List.forall_mem_cons.mpr ⟨List.mem_of_getElem? (i := 721) (by decide +kernel), List.forall_mem_cons.mpr ⟨List.mem_of_getElem? (i := 49) (by decide +kernel), fun _ h => absurd h List.not_mem_nil⟩⟩⟩, i_c_X7_isBetween⟩), List.forall_mem_append.mpr ⟨inX7, fz_wi_IllegalArgument⟩⟩⟩⟩
set_option maxHeartbeats 4000000 in
set_option maxRecDepth 100000 in
theorem c_X7_pass (l : Launch) (dC : Nat → ClassId) (dI : Nat → Nat → Nat) (e0 : Nat) (hlT : l.stackTraces = false) (h0 : Nat) (p0 : Int32) (hd hse hki hma hst hsp hlp htl : Nat) (sz : Nat) : vx_Met l yX7_pass v_c_X7_pass ({ frames := 7, cells := 1, slots := 6, locals := 100 }) (fz_P (dC, dI) e0 [(h0, .inr (12, [.ref hd, .ref hse, .ref hki, .ref hma, .ref hst, .ref hsp, .ref hlp, .ref htl, .int 0, .int 0, .int 0, .int 0, .int 0, .int 0, .int 0, .long ((0 : Int32).toInt64)]))] [] sz (va_A [(h0, .inr (12, [.ref hd, .ref hse, .ref hki, .ref hma, .ref hst, .ref hsp, .ref hlp, .ref htl, .int 0, .int 0, .int 0, .int 0, .int 0, .int 0, .int 0, .long ((0 : Int32).toInt64)]))] sz) [.ref h0, .int p0]) (va_Qi (fun (r : Int32) (u : Unit) => r = 0 + p0 ∧ fz_in p0 1 99) (fun (u : Unit) (t : State) => True) (va_A [(h0, .inr (12, [.ref hd, .ref hse, .ref hki, .ref hma, .ref hst, .ref hsp, .ref hlp, .ref htl, .int 0, .int 0, .int 0, .int 0, .int 0, .int 0, .int 0, .long ((0 : Int32).toInt64)]))] sz)) (vx_X (fun _ : Unit => True) (fun (E : String) (_ : Unit) (_ : State) => (E = "java/lang/IllegalArgumentException" ∧ ¬ fz_in p0 1 99)) (va_A [(h0, .inr (12, [.ref hd, .ref hse, .ref hki, .ref hma, .ref hst, .ref hsp, .ref hlp, .ref htl, .int 0, .int 0, .int 0, .int 0, .int 0, .int 0, .int 0, .long ((0 : Int32).toInt64)]))] sz)) 1 6 (va_A [(h0, .inr (12, [.ref hd, .ref hse, .ref hki, .ref hma, .ref hst, .ref hsp, .ref hlp, .ref htl, .int 0, .int 0, .int 0, .int 0, .int 0, .int 0, .int 0, .long ((0 : Int32).toInt64)]))] sz) := by
  refine vx_ofW (cc := cX7_pass) (maxL := 2) (ret := (some .int)) (by decide) rfl ?_
  intro p e s m args below meth c s₁ B hml htab hv
  obtain ⟨rfl, hsz, hP, hK, hD0, hAm⟩ := hv
  have hx := B.exec
  have hb := B.bytes
  have hr := B.returns
  have hts := atoms_spec (ws := v_c_X7_pass) B.pre
  have hown : s.vm.findClass RX7 = some m.cls := findClass_of_methodNamed B.named
  have hlocks := B.notSynchronized
  subst hsz
  have hD := hD0.self (sz := s.heap.size)
  generalize hAe : va_A [(h0, .inr (12, [.ref hd, .ref hse, .ref hki, .ref hma, .ref hst, .ref hsp, .ref hlp, .ref htl, .int 0, .int 0, .int 0, .int 0, .int 0, .int 0, .int 0, .long ((0 : Int32).toInt64)]))] s.heap.size = A at hD hAm ⊢
  have hA : ∀ q : Nat, s.heap.size ≤ q → A q := fun q h => by rw [← hAe]; exact Or.inr h
  have hS : va_S A s.heap s.heap [] := va_S.rf
  have hP : va_P (dC, dI) vwCl [(h0, .inr (12, [.ref hd, .ref hse, .ref hki, .ref hma, .ref hst, .ref hsp, .ref hlp, .ref htl, .int 0, .int 0, .int 0, .int 0, .int 0, .int 0, .int 0, .long ((0 : Int32).toInt64)]))] s.heap := hP
  have hl := lv_entry ([.ref h0, .int p0]) (n := 2) (Nat.le_of_ble_eq_true rfl)
  rw [lg_entry_eq]
  generalize (lg_sl ([.ref h0, .int p0]) ++ List.replicate (2 - (lg_sl ([.ref h0, .int p0])).length) Slot.unset).toArray = ls at hl ⊢
  have hl : lv_has ls 2 [(0, .ref h0), (1, .int p0)] := hl
  refine lv_iload_n hx hb dX7_pass_0 rfl (lv_at hl 1 rfl) ?_
  refine lv_iconst (v := 1) hx hb dX7_pass_1 (by decide) ?_
  refine lv_bipush (v := 99) hx hb dX7_pass_2 (by decide) ?_
  have hPc := hP.sub (ws' := []) [] rfl
  have hDc := hD.sub (ws' := []) [] (by decide) rfl
  have hKc := hK.sub (tys' := []) [] rfl
  have hFc : ∀ q : Nat, s.heap.size ≤ q → A q := fun q h => hA q (Nat.le_trans hS.1 h)
  refine va_calli (va_runS (As := [.int p0, .int 1, .int 99]) (rest := []) ⟨hx, hb, hml, hown, hts⟩ (c_X7_isBetween l dC dI e0 p0 1 99 s.heap.size) (cwS 3 hts (goodIn_sub (fun _ h9 => List.mem_cons_of_mem _ (List.mem_append_right _ (List.mem_append_left _ h9))) (by decide +kernel)) rfl rfl rfl (by decide +kernel) ⟨(Nat.le_of_ble_eq_true rfl), (Nat.le_of_ble_eq_true rfl)⟩) ⟨fz_blind, fz_pre hPc hKc hDc hAm hS hFc⟩ rfl rfl hl.1 rfl (lv_room (Nat.le_of_ble_eq_true rfl)) dX7_pass_4 ⟨(Nat.le_of_ble_eq_true rfl), (Nat.le_of_ble_eq_true rfl)⟩) hS (fun q _ h => hFc q h) hFc (fun r u t H1 locs ht hvm hw hB hz1 hk1 hS => ?_)
  rcases hw with ⟨rfl, hp_1⟩ | ⟨rfl, hp_2⟩
  · have hP := fz_keep hP hk1
    generalize H1 = H at hP hS ⊢
    have hP : va_P (dC, dI) vwCl [(h0, .inr (12, [.ref hd, .ref hse, .ref hki, .ref hma, .ref hst, .ref hsp, .ref hlp, .ref htl, .int 0, .int 0, .int 0, .int 0, .int 0, .int 0, .int 0, .long ((0 : Int32).toInt64)]))] H := hP
    have hD : va_D A [(h0, .inr (12, [.ref hd, .ref hse, .ref hki, .ref hma, .ref hst, .ref hsp, .ref hlp, .ref htl, .int 0, .int 0, .int 0, .int 0, .int 0, .int 0, .int 0, .long ((0 : Int32).toInt64)]))] := hD
    refine W.widen (k := 0) (n := 0) (Nat.le_of_ble_eq_true rfl) (Nat.le_of_ble_eq_true rfl) ?_
    refine lv_if_ne (tgt := 21) hx hb dX7_pass_7 (by decide) (fun _ => ?_) (fun c_9 => absurd c_9 (by decide))
    refine lv_aload_n hx hb dX7_pass_21 rfl (lv_at hl 0 rfl) ?_
    refine lv_dup hx hb dX7_pass_22 rfl ?_
    refine va_get (D := (dC, dI)) (ci := 12) (v := .int 0) (C := RX7) (T := TX7) (N := 16) hx hb hts (fun _ h9 => List.mem_cons_of_mem _ (List.mem_append_right _ (List.mem_append_right _ (List.mem_append_left _ h9)))) hown hK hP 0 rfl rfl 13 (by decide) (hts _ (List.mem_cons_of_mem _ (List.mem_append_left _ (List.mem_of_getElem? (i := 0) rfl)))) (fun _ h9 => h9) rfl dX7_pass_23 ?_
    refine lv_iload_n hx hb dX7_pass_26 rfl (lv_at hl 1 rfl) ?_
    refine lv_iadd hx hb dX7_pass_27 ?_
    refine lv_topi (fun z_3 ez_3 => ?_)
    refine va_put (D := (dC, dI)) (ci := 12) (v := .int z_3) (ty := .int) (C := RX7) (T := TX7) (N := 16) hx hb hts (fun _ h9 => List.mem_cons_of_mem _ (List.mem_append_right _ (List.mem_append_right _ (List.mem_append_left _ h9)))) tyX7 tyX7_ok nmX7 hown hK hP hD hS 0 rfl rfl 13 (by decide) (hts _ (List.mem_cons_of_mem _ (List.mem_append_left _ (List.mem_of_getElem? (i := 0) rfl)))) (fun _ h9 => h9) rfl (by decide +kernel) rfl rfl (Nat.le_of_ble_eq_true rfl) dX7_pass_28 (fun H locs hP hD hS => ?_)
    have hP : va_P (dC, dI) vwCl [(h0, .inr (12, [.ref hd, .ref hse, .ref hki, .ref hma, .ref hst, .ref hsp, .ref hlp, .ref htl, .int 0, .int 0, .int 0, .int 0, .int 0, .int z_3, .int 0, .long ((0 : Int32).toInt64)]))] H := hP
    have hD : va_D A [(h0, .inr (12, [.ref hd, .ref hse, .ref hki, .ref hma, .ref hst, .ref hsp, .ref hlp, .ref htl, .int 0, .int 0, .int 0, .int 0, .int 0, .int z_3, .int 0, .long ((0 : Int32).toInt64)]))] := hD
    refine lv_aload_n hx hb dX7_pass_31 rfl (lv_at hl 0 rfl) ?_
    refine va_get (D := (dC, dI)) (ci := 12) (v := .int z_3) (C := RX7) (T := TX7) (N := 16) hx hb hts (fun _ h9 => List.mem_cons_of_mem _ (List.mem_append_right _ (List.mem_append_right _ (List.mem_append_left _ h9)))) hown hK hP 0 rfl rfl 13 (by decide) (hts _ (List.mem_cons_of_mem _ (List.mem_append_left _ (List.mem_of_getElem? (i := 0) rfl)))) (fun _ h9 => h9) rfl dX7_pass_32 ?_
    refine W.widen (k := 1) (n := 6) (Nat.le_of_ble_eq_true rfl) (Nat.le_of_ble_eq_true rfl) ?_
    refine vx_ret ?_
    exact W.iret (v := z_3) hx hb hr (fun t ht hW => ⟨⟨z_3, (), rfl, ⟨(by assumption), hp_1⟩, trivial⟩, hS.F ht⟩) hS.2.2 dX7_pass_35
  · have hP := fz_keep hP hk1
    generalize H1 = H at hP hS ⊢
    have hP : va_P (dC, dI) vwCl [(h0, .inr (12, [.ref hd, .ref hse, .ref hki, .ref hma, .ref hst, .ref hsp, .ref hlp, .ref htl, .int 0, .int 0, .int 0, .int 0, .int 0, .int 0, .int 0, .long ((0 : Int32).toInt64)]))] H := hP
    have hD : va_D A [(h0, .inr (12, [.ref hd, .ref hse, .ref hki, .ref hma, .ref hst, .ref hsp, .ref hlp, .ref htl, .int 0, .int 0, .int 0, .int 0, .int 0, .int 0, .int 0, .long ((0 : Int32).toInt64)]))] := hD
    refine W.widen (k := 0) (n := 0) (Nat.le_of_ble_eq_true rfl) (Nat.le_of_ble_eq_true rfl) ?_
    refine lv_if_ne (tgt := 21) hx hb dX7_pass_7 (by decide) (fun c_9 => absurd (by decide) c_9) (fun _ => ?_)
    obtain ⟨sa_9, hst_9⟩ := hAm.1.2.2.2.2.2.1 _ fz_s_346
    have hq_9 : ∀ w ∈ fz_w_IllegalArgument, w.before _ s = true := fun w h9 => hts w (List.mem_cons_of_mem _ (List.mem_append_right _ (List.mem_append_right _ (List.mem_append_right _ h9))))
    exact vx_throwSW (cls := "java/lang/IllegalArgumentException") (text := "the number of days is out of range") (names := ["java/lang/RuntimeException", "java/lang/Exception"]) (ik := 85) (is := 346) (ic := 89) (sa := sa_9) hx hb hlT hown (by decide +kernel) fz_nm_IllegalArgument (hq_9 _ List.mem_cons_self) (hq_9 _ (List.mem_cons_of_mem _ List.mem_cons_self)) hst_9 (fz_wf (ik := 0) hq_9 (fun _ h9 => List.mem_cons_of_mem _ (List.mem_cons_of_mem _ h9)) fz_ng_IllegalArgument (hAm.1.2.1 _ fz_x_IllegalArgument) hAm.1) fz_ot_IllegalArgument hAm.2.1 hAm.2.2.1 hS (hl.1.trans hml.symm) dX7_pass_10 dX7_pass_13 dX7_pass_14 dX7_pass_17 dX7_pass_20 (fun x h9 => (htab x h9).elim) (by decide) (by decide) (Nat.le_of_ble_eq_true rfl) (Nat.le_of_ble_eq_true rfl) hlocks (fun t _ h1_9 h2_9 => ⟨(), trivial, ⟨rfl, hp_2⟩, fz_xF hS h1_9 h2_9⟩) hS.2.2 (Nat.le_of_ble_eq_true rfl) (Nat.le_of_ble_eq_true rfl)
def v_c_X7_spent : List Cond := .code yX7_spent cX7_spent 1 (some .long) :: ([.fieldLink RX7 74 "VoussoirYard" "moneySpent" "J"] ++ (wsX70))
set_option maxRecDepth 20000 in
theorem i_c_X7_spent : ∀ w ∈ v_c_X7_spent, w ∈ lw_tbl := List.forall_mem_cons.mpr ⟨List.mem_of_getElem? (i := 304) (by decide +kernel), List.forall_mem_append.mpr ⟨List.forall_mem_cons.mpr ⟨List.mem_of_getElem? (i := 234) (by decide +kernel), fun _ h => absurd h List.not_mem_nil⟩, inX7⟩⟩
set_option maxHeartbeats 4000000 in
set_option maxRecDepth 100000 in
theorem c_X7_spent (l : Launch) (dC : Nat → ClassId) (dI : Nat → Nat → Nat) (e0 : Nat) (h0 hd hse hki hma hst hsp hlp htl : Nat) (sz : Nat) : Met l yX7_spent v_c_X7_spent ({ frames := 0, cells := 0, slots := 0, locals := 0 }) (fz_P (dC, dI) e0 [(h0, .inr (12, [.ref hd, .ref hse, .ref hki, .ref hma, .ref hst, .ref hsp, .ref hlp, .ref htl, .int 0, .int 0, .int 0, .int 0, .int 0, .int 0, .int 0, .long ((0 : Int32).toInt64)]))] [] sz (fun q : Nat => sz ≤ q) [.ref h0]) (va_Ql (fun (r : Int64) (u : Unit) => r = (0 : Int32).toInt64) (fun (u : Unit) (t : State) => True) (fun q : Nat => sz ≤ q)) 0 0 (fun q : Nat => sz ≤ q) := by
  refine Met.ofW (cc := cX7_spent) (maxL := 1) (ret := (some .long)) (by decide) rfl ?_
  intro p e s m args below meth c s₁ B hml hv
  obtain ⟨rfl, hsz, hP, hK, hD0, hAm⟩ := hv
  have hx := B.exec
  have hb := B.bytes
  have hr := B.returns
  have hts := atoms_spec (ws := v_c_X7_spent) B.pre
  have hown : s.vm.findClass RX7 = some m.cls := findClass_of_methodNamed B.named
  have hlocks := B.notSynchronized
  subst hsz
  have hD := hD0
  generalize hAe : (fun q : Nat => s.heap.size ≤ q) = A at hAm ⊢
  have hA : ∀ q : Nat, s.heap.size ≤ q → A q := fun q h => by rw [← hAe]; exact h
  have hS : va_S A s.heap s.heap [] := va_S.rf
  have hP : va_P (dC, dI) vwCl [(h0, .inr (12, [.ref hd, .ref hse, .ref hki, .ref hma, .ref hst, .ref hsp, .ref hlp, .ref htl, .int 0, .int 0, .int 0, .int 0, .int 0, .int 0, .int 0, .long ((0 : Int32).toInt64)]))] s.heap := hP
  have hl := lv_entry ([.ref h0]) (n := 1) (Nat.le_of_ble_eq_true rfl)
  rw [lg_entry_eq]
  generalize (lg_sl ([.ref h0]) ++ List.replicate (1 - (lg_sl ([.ref h0])).length) Slot.unset).toArray = ls at hl ⊢
  have hl : lv_has ls 1 [(0, .ref h0)] := hl
  refine lv_aload_n hx hb dX7_spent_0 rfl (lv_at hl 0 rfl) ?_
  refine va_get (D := (dC, dI)) (ci := 12) (v := .long ((0 : Int32).toInt64)) (C := RX7) (T := TX7) (N := 16) hx hb hts (fun _ h9 => List.mem_cons_of_mem _ (List.mem_append_right _ (h9))) hown hK hP 0 rfl rfl 15 (by decide) (hts _ (List.mem_cons_of_mem _ (List.mem_append_left _ (List.mem_of_getElem? (i := 0) rfl)))) (fun _ h9 => h9) rfl dX7_spent_1 ?_
  refine W.widen (k := 0) (n := 0) (Nat.le_of_ble_eq_true rfl) (Nat.le_of_ble_eq_true rfl) ?_
  exact W.lret (v := ((0 : Int32).toInt64)) hx hb hr (fun t ht hW => ⟨⟨((0 : Int32).toInt64), (), rfl, rfl, trivial⟩, hS.F ht⟩) hS.2.2 dX7_spent_4
def v_c_X7_waste : List Cond := .code yX7_waste cX7_waste 1 (some .int) :: ([] ++ (wsV RX7 351 RX7 yX7_areaOfUsedBlocks v_c_X7_areaOfUsedBlocks ++ (wsV RX7 354 RX7 yX7_areaOfStones v_c_X7_areaOfStones)))
set_option maxRecDepth 20000 in
theorem i_c_X7_waste : ∀ w ∈ v_c_X7_waste, w ∈ lw_tbl := List.forall_mem_cons.mpr ⟨List.mem_of_getElem? (i := 308) (by decide +kernel), List.forall_mem_append.mpr ⟨fun _ h => absurd h List.not_mem_nil, List.forall_mem_append.mpr ⟨(by unfold wsV; exact List.forall_mem_append.mpr ⟨List.forall_mem_cons.mpr ⟨List.mem_of_getElem? (i := 309) (by decide +kernel), List.forall_mem_cons.mpr ⟨List.mem_of_getElem? (i := 311) (by decide +kernel), List.forall_mem_cons.mpr ⟨List.mem_of_getElem? (i := 2) (by decide +kernel), List.forall_mem_cons.mpr ⟨List.mem_of_getElem? (i := 49) (by decide +kernel), fun _ h => absurd h List.not_mem_nil⟩⟩⟩⟩, i_c_X7_areaOfUsedBlocks⟩), (by unfold wsV; exact List.forall_mem_append.mpr ⟨List.forall_mem_cons.mpr ⟨List.mem_of_getElem? (i := 317) (by decide +kernel), List.forall_mem_cons.mpr ⟨List.mem_of_getElem? (i := 319) (by decide +kernel), List.forall_mem_cons.mpr ⟨List.mem_of_getElem? (i := 4) (by decide +kernel), List.forall_mem_cons.mpr ⟨List.mem_of_getElem? (i := 49) (by decide +kernel), fun _ h => absurd h List.not_mem_nil⟩⟩⟩⟩, i_c_X7_areaOfStones⟩)⟩⟩⟩
set_option maxHeartbeats 4000000 in
set_option maxRecDepth 100000 in
theorem c_X7_waste (l : Launch) (dC : Nat → ClassId) (dI : Nat → Nat → Nat) (e0 : Nat) (h0 hd hse hki hma hst hsp hlp htl : Nat) (sz : Nat) : Met l yX7_waste v_c_X7_waste ({ frames := 1, cells := 0, slots := 0, locals := 23 }) (fz_P (dC, dI) e0 [(h0, .inr (12, [.ref hd, .ref hse, .ref hki, .ref hma, .ref hst, .ref hsp, .ref hlp, .ref htl, .int 0, .int 0, .int 0, .int 0, .int 0, .int 0, .int 0, .long ((0 : Int32).toInt64)]))] [] sz (fun q : Nat => sz ≤ q) [.ref h0]) (va_Qi (fun (r : Int32) (u : Unit) => r = 0) (fun (u : Unit) (t : State) => True) (fun q : Nat => sz ≤ q)) 0 0 (fun q : Nat => sz ≤ q) := by
  refine Met.ofW (cc := cX7_waste) (maxL := 1) (ret := (some .int)) (by decide) rfl ?_
  intro p e s m args below meth c s₁ B hml hv
  obtain ⟨rfl, hsz, hP, hK, hD0, hAm⟩ := hv
  have hx := B.exec
  have hb := B.bytes
  have hr := B.returns
  have hts := atoms_spec (ws := v_c_X7_waste) B.pre
  have hown : s.vm.findClass RX7 = some m.cls := findClass_of_methodNamed B.named
  have hlocks := B.notSynchronized
  subst hsz
  have hD := hD0
  generalize hAe : (fun q : Nat => s.heap.size ≤ q) = A at hAm ⊢
  have hA : ∀ q : Nat, s.heap.size ≤ q → A q := fun q h => by rw [← hAe]; exact h
  have hS : va_S A s.heap s.heap [] := va_S.rf
  have hP : va_P (dC, dI) vwCl [(h0, .inr (12, [.ref hd, .ref hse, .ref hki, .ref hma, .ref hst, .ref hsp, .ref hlp, .ref htl, .int 0, .int 0, .int 0, .int 0, .int 0, .int 0, .int 0, .long ((0 : Int32).toInt64)]))] s.heap := hP
  have hl := lv_entry ([.ref h0]) (n := 1) (Nat.le_of_ble_eq_true rfl)
  rw [lg_entry_eq]
  generalize (lg_sl ([.ref h0]) ++ List.replicate (1 - (lg_sl ([.ref h0])).length) Slot.unset).toArray = ls at hl ⊢
  have hl : lv_has ls 1 [(0, .ref h0)] := hl
  refine lv_aload_n hx hb dX7_waste_0 rfl (lv_at hl 0 rfl) ?_
  have hPc := hP.sub (ws' := [(h0, .inr (12, [.ref hd, .ref hse, .ref hki, .ref hma, .ref hst, .ref hsp, .ref hlp, .ref htl, .int 0, .int 0, .int 0, .int 0, .int 0, .int 0, .int 0, .long ((0 : Int32).toInt64)]))]) [0] rfl
  have hDc := hD.sub (ws' := [(h0, .inr (12, [.ref hd, .ref hse, .ref hki, .ref hma, .ref hst, .ref hsp, .ref hlp, .ref htl, .int 0, .int 0, .int 0, .int 0, .int 0, .int 0, .int 0, .long ((0 : Int32).toInt64)]))]) [0] (by decide) rfl
  have hKc := hK.sub (tys' := []) [] rfl
  have hFc : ∀ q : Nat, s.heap.size ≤ q → A q := fun q h => hA q (Nat.le_trans hS.1 h)
  refine va_calli (va_runV (As := []) (rest := []) ⟨hx, hb, hml, hown, hts⟩ (c_X7_areaOfUsedBlocks l dC dI e0 h0 hd hse hki hma hst hsp hlp htl s.heap.size) (cwV 0 hts (goodIn_sub (fun _ h9 => List.mem_cons_of_mem _ (List.mem_append_right _ (List.mem_append_left _ h9))) (by decide +kernel)) rfl rfl rfl (by decide +kernel) ⟨(Nat.le_of_ble_eq_true rfl), (Nat.le_of_ble_eq_true rfl)⟩) ⟨fz_blind, va_recv hKc hPc (ci := 12) (q0 := 0) rfl rfl, fz_pre hPc hKc hDc hAm hS hFc⟩ rfl rfl hl.1 rfl (lv_room (Nat.le_of_ble_eq_true rfl)) dX7_waste_1 ⟨(Nat.le_of_ble_eq_true rfl), (Nat.le_of_ble_eq_true rfl)⟩) hS (fun q _ h => hFc q h) hFc (fun r u t H1 locs ht hvm hw hB hz1 hk1 hS => ?_)
  obtain rfl := hw
  have hP := fz_keep hP hk1
  generalize H1 = H at hP hS ⊢
  have hP : va_P (dC, dI) vwCl [(h0, .inr (12, [.ref hd, .ref hse, .ref hki, .ref hma, .ref hst, .ref hsp, .ref hlp, .ref htl, .int 0, .int 0, .int 0, .int 0, .int 0, .int 0, .int 0, .long ((0 : Int32).toInt64)]))] H := hP
  refine W.widen (k := 0) (n := 0) (Nat.le_of_ble_eq_true rfl) (Nat.le_of_ble_eq_true rfl) ?_
  refine lv_aload_n hx hb dX7_waste_4 rfl (lv_at hl 0 rfl) ?_
  have hPc := hP.sub (ws' := [(h0, .inr (12, [.ref hd, .ref hse, .ref hki, .ref hma, .ref hst, .ref hsp, .ref hlp, .ref htl, .int 0, .int 0, .int 0, .int 0, .int 0, .int 0, .int 0, .long ((0 : Int32).toInt64)]))]) [0] rfl
  have hDc := hD.sub (ws' := [(h0, .inr (12, [.ref hd, .ref hse, .ref hki, .ref hma, .ref hst, .ref hsp, .ref hlp, .ref htl, .int 0, .int 0, .int 0, .int 0, .int 0, .int 0, .int 0, .long ((0 : Int32).toInt64)]))]) [0] (by decide) rfl
  have hKc := hK.sub (tys' := []) [] rfl
  have hFc : ∀ q : Nat, H.size ≤ q → A q := fun q h => hA q (Nat.le_trans hS.1 h)
  refine va_calli (va_runV (As := []) (rest := [.int 0]) ⟨hx, hb, hml, hown, hts⟩ (c_X7_areaOfStones l dC dI e0 h0 hd hse hki hma hst hsp hlp htl H.size) (cwV 0 hts (goodIn_sub (fun _ h9 => List.mem_cons_of_mem _ (List.mem_append_right _ (List.mem_append_right _ h9))) (by decide +kernel)) rfl rfl rfl (by decide +kernel) ⟨(Nat.le_of_ble_eq_true rfl), (Nat.le_of_ble_eq_true rfl)⟩) ⟨fz_blind, va_recv hKc hPc (ci := 12) (q0 := 0) rfl rfl, fz_pre hPc hKc hDc hAm hS hFc⟩ rfl rfl hl.1 rfl (lv_room (Nat.le_of_ble_eq_true rfl)) dX7_waste_5 ⟨(Nat.le_of_ble_eq_true rfl), (Nat.le_of_ble_eq_true rfl)⟩) hS (fun q _ h => hFc q h) hFc (fun r u t H1 locs ht hvm hw hB hz1 hk1 hS => ?_)
  obtain rfl := hw
  have hP := fz_keep hP hk1
  generalize H1 = H at hP hS ⊢
  have hP : va_P (dC, dI) vwCl [(h0, .inr (12, [.ref hd, .ref hse, .ref hki, .ref hma, .ref hst, .ref hsp, .ref hlp, .ref htl, .int 0, .int 0, .int 0, .int 0, .int 0, .int 0, .int 0, .long ((0 : Int32).toInt64)]))] H := hP
  refine W.widen (k := 0) (n := 0) (Nat.le_of_ble_eq_true rfl) (Nat.le_of_ble_eq_true rfl) ?_
  refine lv_isub hx hb dX7_waste_8 ?_
  refine lv_topi (fun z_9 e_9 => ?_)
  obtain rfl : 0 = z_9 := (e_9.trans (by decide)).symm
  refine W.widen (k := 0) (n := 0) (Nat.le_of_ble_eq_true rfl) (Nat.le_of_ble_eq_true rfl) ?_
  exact W.iret (v := 0) hx hb hr (fun t ht hW => ⟨⟨0, (), rfl, rfl, trivial⟩, hS.F ht⟩) hS.2.2 dX7_waste_9
def v_c_X7_usedShare : List Cond := .code yX7_usedShare cX7_usedShare 2 (some .float) :: ([] ++ (wsV RX7 351 RX7 yX7_areaOfUsedBlocks v_c_X7_areaOfUsedBlocks ++ (fz_w_Arithmetic)))
set_option maxRecDepth 20000 in
theorem i_c_X7_usedShare : ∀ w ∈ v_c_X7_usedShare, w ∈ lw_tbl := List.forall_mem_cons.mpr ⟨List.mem_of_getElem? (i := 1277) (by decide +kernel), List.forall_mem_append.mpr ⟨fun _ h => absurd h List.not_mem_nil, List.forall_mem_append.mpr ⟨(by unfold wsV; exact List.forall_mem_append.mpr ⟨List.forall_mem_cons.mpr ⟨List.mem_of_getElem? (i := 309) (by decide +kernel), List.forall_mem_cons.mpr ⟨List.mem_of_getElem? (i := 311) (by decide +kernel), List.forall_mem_cons.mpr ⟨List.mem_of_getElem? (i := 2) (by decide +kernel), List.forall_mem_cons.mpr ⟨List.mem_of_getElem? (i := 49) (by decide +kernel), fun _ h => absurd h List.not_mem_nil⟩⟩⟩⟩, i_c_X7_areaOfUsedBlocks⟩), fz_wi_Arithmetic⟩⟩⟩
set_option maxHeartbeats 4000000 in
set_option maxRecDepth 100000 in
theorem c_X7_usedShare (l : Launch) (dC : Nat → ClassId) (dI : Nat → Nat → Nat) (e0 : Nat) (hlT : l.stackTraces = false) (h0 hd hse hki hma hst hsp hlp htl : Nat) (sz : Nat) : vx_Met l yX7_usedShare v_c_X7_usedShare ({ frames := 7, cells := 1, slots := 6, locals := 100 }) (fz_P (dC, dI) e0 [(h0, .inr (12, [.ref hd, .ref hse, .ref hki, .ref hma, .ref hst, .ref hsp, .ref hlp, .ref htl, .int 0, .int 0, .int 0, .int 0, .int 0, .int 0, .int 0, .long ((0 : Int32).toInt64)]))] [] sz (fun q : Nat => sz ≤ q) [.ref h0]) (va_Qf (fun (r : UInt32) (u : Unit) => False) (fun (u : Unit) (t : State) => True) (fun q : Nat => sz ≤ q)) (vx_X (fun _ : Unit => True) (fun (E : String) (_ : Unit) (_ : State) => (E = "java/lang/ArithmeticException")) (fun q : Nat => sz ≤ q)) 1 6 (fun q : Nat => sz ≤ q) := by
  refine vx_ofW (cc := cX7_usedShare) (maxL := 2) (ret := (some .float)) (by decide) rfl ?_
  intro p e s m args below meth c s₁ B hml htab hv
  obtain ⟨rfl, hsz, hP, hK, hD0, hAm⟩ := hv
  have hx := B.exec
  have hb := B.bytes
  have hr := B.returns
  have hts := atoms_spec (ws := v_c_X7_usedShare) B.pre
  have hown : s.vm.findClass RX7 = some m.cls := findClass_of_methodNamed B.named
  have hlocks := B.notSynchronized
  subst hsz
  have hD := hD0
  generalize hAe : (fun q : Nat => s.heap.size ≤ q) = A at hAm ⊢
  have hA : ∀ q : Nat, s.heap.size ≤ q → A q := fun q h => by rw [← hAe]; exact h
  have hS : va_S A s.heap s.heap [] := va_S.rf
  have hP : va_P (dC, dI) vwCl [(h0, .inr (12, [.ref hd, .ref hse, .ref hki, .ref hma, .ref hst, .ref hsp, .ref hlp, .ref htl, .int 0, .int 0, .int 0, .int 0, .int 0, .int 0, .int 0, .long ((0 : Int32).toInt64)]))] s.heap := hP
  have hl := lv_entry ([.ref h0]) (n := 2) (Nat.le_of_ble_eq_true rfl)
  rw [lg_entry_eq]
  generalize (lg_sl ([.ref h0]) ++ List.replicate (2 - (lg_sl ([.ref h0])).length) Slot.unset).toArray = ls at hl ⊢
  have hl : lv_has ls 2 [(0, .ref h0)] := hl
  refine lv_aload_n hx hb dX7_usedShare_0 rfl (lv_at hl 0 rfl) ?_
  have hPc := hP.sub (ws' := [(h0, .inr (12, [.ref hd, .ref hse, .ref hki, .ref hma, .ref hst, .ref hsp, .ref hlp, .ref htl, .int 0, .int 0, .int 0, .int 0, .int 0, .int 0, .int 0, .long ((0 : Int32).toInt64)]))]) [0] rfl
  have hDc := hD.sub (ws' := [(h0, .inr (12, [.ref hd, .ref hse, .ref hki, .ref hma, .ref hst, .ref hsp, .ref hlp, .ref htl, .int 0, .int 0, .int 0, .int 0, .int 0, .int 0, .int 0, .long ((0 : Int32).toInt64)]))]) [0] (by decide) rfl
  have hKc := hK.sub (tys' := []) [] rfl
  have hFc : ∀ q : Nat, s.heap.size ≤ q → A q := fun q h => hA q (Nat.le_trans hS.1 h)
  refine va_calli (va_runV (As := []) (rest := []) ⟨hx, hb, hml, hown, hts⟩ (c_X7_areaOfUsedBlocks l dC dI e0 h0 hd hse hki hma hst hsp hlp htl s.heap.size) (cwV 0 hts (goodIn_sub (fun _ h9 => List.mem_cons_of_mem _ (List.mem_append_right _ (List.mem_append_left _ h9))) (by decide +kernel)) rfl rfl rfl (by decide +kernel) ⟨(Nat.le_of_ble_eq_true rfl), (Nat.le_of_ble_eq_true rfl)⟩) ⟨fz_blind, va_recv hKc hPc (ci := 12) (q0 := 0) rfl rfl, fz_pre hPc hKc hDc hAm hS hFc⟩ rfl rfl hl.1 rfl (lv_room (Nat.le_of_ble_eq_true rfl)) dX7_usedShare_1 ⟨(Nat.le_of_ble_eq_true rfl), (Nat.le_of_ble_eq_true rfl)⟩) hS (fun q _ h => hFc q h) hFc (fun r u t H1 locs ht hvm hw hB hz1 hk1 hS => ?_)
  obtain rfl := hw
  have hP := fz_keep hP hk1
  generalize H1 = H at hP hS ⊢
  have hP : va_P (dC, dI) vwCl [(h0, .inr (12, [.ref hd, .ref hse, .ref hki, .ref hma, .ref hst, .ref hsp, .ref hlp, .ref htl, .int 0, .int 0, .int 0, .int 0, .int 0, .int 0, .int 0, .long ((0 : Int32).toInt64)]))] H := hP
  refine W.widen (k := 0) (n := 0) (Nat.le_of_ble_eq_true rfl) (Nat.le_of_ble_eq_true rfl) ?_
  refine lv_istore_n (lv' := [(1, .int 0), (0, .ref h0)]) hx hb dX7_usedShare_4 rfl hl (by decide) rfl (fun ls hl => ?_)
  refine lv_iload_n hx hb dX7_usedShare_5 rfl (lv_at hl 0 rfl) ?_
  refine lv_if_gt (tgt := 20) hx hb dX7_usedShare_6 (by decide) (fun c_9 => absurd c_9 (by decide)) (fun _ => ?_)
  obtain ⟨sa_9, hst_9⟩ := hAm.1.2.2.2.2.2.1 _ fz_s_359
  have hq_9 : ∀ w ∈ fz_w_Arithmetic, w.before _ s = true := fun w h9 => hts w (List.mem_cons_of_mem _ (List.mem_append_right _ (List.mem_append_right _ h9)))
  exact vx_throwSW (cls := "java/lang/ArithmeticException") (text := "no block was cut") (names := ["java/lang/RuntimeException", "java/lang/Exception"]) (ik := 357) (is := 359) (ic := 361) (sa := sa_9) hx hb hlT hown (by decide +kernel) fz_nm_Arithmetic (hq_9 _ List.mem_cons_self) (hq_9 _ (List.mem_cons_of_mem _ List.mem_cons_self)) hst_9 (fz_wf (ik := 0) hq_9 (fun _ h9 => List.mem_cons_of_mem _ (List.mem_cons_of_mem _ h9)) fz_ng_Arithmetic (hAm.1.2.1 _ fz_x_Arithmetic) hAm.1) fz_ot_Arithmetic hAm.2.1 hAm.2.2.1 hS (hl.1.trans hml.symm) dX7_usedShare_9 dX7_usedShare_12 dX7_usedShare_13 dX7_usedShare_16 dX7_usedShare_19 (fun x h9 => (htab x h9).elim) (by decide) (by decide) (Nat.le_of_ble_eq_true rfl) (Nat.le_of_ble_eq_true rfl) hlocks (fun t _ h1_9 h2_9 => ⟨(), trivial, rfl, fz_xF hS h1_9 h2_9⟩) hS.2.2 (Nat.le_of_ble_eq_true rfl) (Nat.le_of_ble_eq_true rfl)
def v_c_X7_meanArea : List Cond := .code yX7_meanArea cX7_meanArea 2 (some .double) :: ([.fieldLink RX7 10 "VoussoirYard" "drawing" "LVoussoirYard$Drawing;"] ++ (wsX70 ++ (wsV RX7 145 RX1 yX1_placeCount v_c_X1_placeCount ++ (fz_w_Arithmetic))))
set_option maxRecDepth 20000 in
theorem i_c_X7_meanArea : ∀ w ∈ v_c_X7_meanArea, w ∈ lw_tbl := List.forall_mem_cons.mpr ⟨List.mem_of_getElem? (i := 1287) (by decide +kernel), List.forall_mem_append.mpr ⟨List.forall_mem_cons.mpr ⟨List.mem_of_getElem? (i := 219) (by decide +kernel), fun _ h => absurd h List.not_mem_nil⟩, List.forall_mem_append.mpr ⟨inX7, List.forall_mem_append.mpr ⟨(by unfold wsV; exact List.forall_mem_append.mpr ⟨List.forall_mem_cons.mpr ⟨List.mem_of_getElem? (i := 272) (by decide +kernel), List.forall_mem_cons.mpr ⟨List.mem_of_getElem? (i := 273) (by decide +kernel), List.forall_mem_cons.mpr ⟨List.mem_of_getElem? (i := 274) (by decide +kernel), List.forall_mem_cons.mpr ⟨List.mem_of_getElem? (i := 50) (by decide +kernel), fun _ h => absurd h List.not_mem_nil⟩⟩⟩⟩, i_c_X1_placeCount⟩), fz_wi_Arithmetic⟩⟩⟩⟩
set_option maxHeartbeats 4000000 in
set_option maxRecDepth 100000 in
theorem c_X7_meanArea (l : Launch) (dC : Nat → ClassId) (dI : Nat → Nat → Nat) (e0 : Nat) (hlT : l.stackTraces = false) (h0 hd hse hki hma hst hsp hlp htl hj hpr hqd : Nat) (sz : Nat) : vx_Met l yX7_meanArea v_c_X7_meanArea ({ frames := 7, cells := 1, slots := 6, locals := 100 }) (fz_P (dC, dI) e0 [(h0, .inr (12, [.ref hd, .ref hse, .ref hki, .ref hma, .ref hst, .ref hsp, .ref hlp, .ref htl, .int 0, .int 0, .int 0, .int 0, .int 0, .int 0, .int 0, .long ((0 : Int32).toInt64)])), (hd, .inr (6, [.ref hj, .ref hpr, .ref hqd, .int 0, .int 0, .int 1]))] [] sz (fun q : Nat => sz ≤ q) [.ref h0]) (va_Qd (fun (r : UInt64) (u : Unit) => False) (fun (u : Unit) (t : State) => True) (fun q : Nat => sz ≤ q)) (vx_X (fun _ : Unit => True) (fun (E : String) (_ : Unit) (_ : State) => (E = "java/lang/ArithmeticException")) (fun q : Nat => sz ≤ q)) 1 6 (fun q : Nat => sz ≤ q) := by
  refine vx_ofW (cc := cX7_meanArea) (maxL := 2) (ret := (some .double)) (by decide) rfl ?_
  intro p e s m args below meth c s₁ B hml htab hv
  obtain ⟨rfl, hsz, hP, hK, hD0, hAm⟩ := hv
  have hx := B.exec
  have hb := B.bytes
  have hr := B.returns
  have hts := atoms_spec (ws := v_c_X7_meanArea) B.pre
  have hown : s.vm.findClass RX7 = some m.cls := findClass_of_methodNamed B.named
  have hlocks := B.notSynchronized
  subst hsz
  have hD := hD0
  generalize hAe : (fun q : Nat => s.heap.size ≤ q) = A at hAm ⊢
  have hA : ∀ q : Nat, s.heap.size ≤ q → A q := fun q h => by rw [← hAe]; exact h
  have hS : va_S A s.heap s.heap [] := va_S.rf
  have hP : va_P (dC, dI) vwCl [(h0, .inr (12, [.ref hd, .ref hse, .ref hki, .ref hma, .ref hst, .ref hsp, .ref hlp, .ref htl, .int 0, .int 0, .int 0, .int 0, .int 0, .int 0, .int 0, .long ((0 : Int32).toInt64)])), (hd, .inr (6, [.ref hj, .ref hpr, .ref hqd, .int 0, .int 0, .int 1]))] s.heap := hP
  have hl := lv_entry ([.ref h0]) (n := 2) (Nat.le_of_ble_eq_true rfl)
  rw [lg_entry_eq]
  generalize (lg_sl ([.ref h0]) ++ List.replicate (2 - (lg_sl ([.ref h0])).length) Slot.unset).toArray = ls at hl ⊢
  have hl : lv_has ls 2 [(0, .ref h0)] := hl
  refine lv_aload_n hx hb dX7_meanArea_0 rfl (lv_at hl 0 rfl) ?_
  refine va_get (D := (dC, dI)) (ci := 12) (v := .ref hd) (C := RX7) (T := TX7) (N := 16) hx hb hts (fun _ h9 => List.mem_cons_of_mem _ (List.mem_append_right _ (List.mem_append_left _ h9))) hown hK hP 0 rfl rfl 0 (by decide) (hts _ (List.mem_cons_of_mem _ (List.mem_append_left _ (List.mem_of_getElem? (i := 0) rfl)))) (fun _ h9 => h9) rfl dX7_meanArea_1 ?_
  have hPc := hP.sub (ws' := [(hd, .inr (6, [.ref hj, .ref hpr, .ref hqd, .int 0, .int 0, .int 1]))]) [1] rfl
  have hDc := hD.sub (ws' := [(hd, .inr (6, [.ref hj, .ref hpr, .ref hqd, .int 0, .int 0, .int 1]))]) [1] (by decide) rfl
  have hKc := hK.sub (tys' := []) [] rfl
  have hFc : ∀ q : Nat, s.heap.size ≤ q → A q := fun q h => hA q (Nat.le_trans hS.1 h)
  refine va_calli (va_runV (As := []) (rest := []) ⟨hx, hb, hml, hown, hts⟩ (c_X1_placeCount l dC dI e0 hd hj hpr hqd s.heap.size) (cwV 0 hts (goodIn_sub (fun _ h9 => List.mem_cons_of_mem _ (List.mem_append_right _ (List.mem_append_right _ (List.mem_append_left _ h9)))) (by decide +kernel)) rfl rfl rfl (by decide +kernel) ⟨(Nat.le_of_ble_eq_true rfl), (Nat.le_of_ble_eq_true rfl)⟩) ⟨fz_blind, va_recv hKc hPc (ci := 6) (q0 := 0) rfl rfl, fz_pre hPc hKc hDc hAm hS hFc⟩ rfl rfl hl.1 rfl (lv_room (Nat.le_of_ble_eq_true rfl)) dX7_meanArea_4 ⟨(Nat.le_of_ble_eq_true rfl), (Nat.le_of_ble_eq_true rfl)⟩) hS (fun q _ h => hFc q h) hFc (fun r u t H1 locs ht hvm hw hB hz1 hk1 hS => ?_)
  obtain rfl := hw
  have hP := fz_keep hP hk1
  generalize H1 = H at hP hS ⊢
  have hP : va_P (dC, dI) vwCl [(h0, .inr (12, [.ref hd, .ref hse, .ref hki, .ref hma, .ref hst, .ref hsp, .ref hlp, .ref htl, .int 0, .int 0, .int 0, .int 0, .int 0, .int 0, .int 0, .long ((0 : Int32).toInt64)])), (hd, .inr (6, [.ref hj, .ref hpr, .ref hqd, .int 0, .int 0, .int 1]))] H := hP
  refine W.widen (k := 0) (n := 0) (Nat.le_of_ble_eq_true rfl) (Nat.le_of_ble_eq_true rfl) ?_
  refine lv_istore_n (lv' := [(1, .int 0), (0, .ref h0)]) hx hb dX7_meanArea_7 rfl hl (by decide) rfl (fun ls hl => ?_)
  refine lv_iload_n hx hb dX7_meanArea_8 rfl (lv_at hl 0 rfl) ?_
  refine lv_if_gt (tgt := 23) hx hb dX7_meanArea_9 (by decide) (fun c_9 => absurd c_9 (by decide)) (fun _ => ?_)
  obtain ⟨sa_9, hst_9⟩ := hAm.1.2.2.2.2.2.1 _ fz_s_362
  have hq_9 : ∀ w ∈ fz_w_Arithmetic, w.before _ s = true := fun w h9 => hts w (List.mem_cons_of_mem _ (List.mem_append_right _ (List.mem_append_right _ (List.mem_append_right _ h9))))
  exact vx_throwSW (cls := "java/lang/ArithmeticException") (text := "there are no places") (names := ["java/lang/RuntimeException", "java/lang/Exception"]) (ik := 357) (is := 362) (ic := 361) (sa := sa_9) hx hb hlT hown (by decide +kernel) fz_nm_Arithmetic (hq_9 _ List.mem_cons_self) (hq_9 _ (List.mem_cons_of_mem _ List.mem_cons_self)) hst_9 (fz_wf (ik := 0) hq_9 (fun _ h9 => List.mem_cons_of_mem _ (List.mem_cons_of_mem _ h9)) fz_ng_Arithmetic (hAm.1.2.1 _ fz_x_Arithmetic) hAm.1) fz_ot_Arithmetic hAm.2.1 hAm.2.2.1 hS (hl.1.trans hml.symm) dX7_meanArea_12 dX7_meanArea_15 dX7_meanArea_16 dX7_meanArea_19 dX7_meanArea_22 (fun x h9 => (htab x h9).elim) (by decide) (by decide) (Nat.le_of_ble_eq_true rfl) (Nat.le_of_ble_eq_true rfl) hlocks (fun t _ h1_9 h2_9 => ⟨(), trivial, rfl, fz_xF hS h1_9 h2_9⟩) hS.2.2 (Nat.le_of_ble_eq_true rfl) (Nat.le_of_ble_eq_true rfl)
def v_c_X7_isSound : List Cond := .code yX7_isSound cX7_isSound 1 (some .boolean) :: ([.fieldLink RX7 10 "VoussoirYard" "drawing" "LVoussoirYard$Drawing;", .fieldLink RX7 64 "VoussoirYard" "isStanding" "Z"] ++ (wsX70 ++ (wsV RX7 364 RX1 yX1_areaOfAll v_c_X1_areaOfAll ++ (wsV RX7 367 RX1 yX1_areaGoneRound v_c_X1_areaGoneRound ++ (wsV RX7 370 RX7 yX7_areSetStonesFitting v_c_X7_areSetStonesFitting)))))
set_option maxRecDepth 20000 in
theorem i_c_X7_isSound : ∀ w ∈ v_c_X7_isSound, w ∈ lw_tbl := List.forall_mem_cons.mpr ⟨List.mem_of_getElem? (i := 331) (by decide +kernel), List.forall_mem_append.mpr ⟨List.forall_mem_cons.mpr ⟨List.mem_of_getElem? (i := 219) (by decide +kernel), List.forall_mem_cons.mpr ⟨List.mem_of_getElem? (i := 231) (by decide +kernel), fun _ h => absurd h List.not_mem_nil⟩⟩, List.forall_mem_append.mpr ⟨inX7, List.forall_mem_append.mpr ⟨(by unfold wsV; exact List.forall_mem_append.mpr ⟨List.forall_mem_cons.mpr ⟨List.mem_of_getElem? (i := 332) (by decide +kernel), List.forall_mem_cons.mpr ⟨List.mem_of_getElem? (i := 333) (by decide +kernel), List.forall_mem_cons.mpr ⟨List.mem_of_getElem? (i := 334) (by decide +kernel), List.forall_mem_cons.mpr ⟨List.mem_of_getElem? (i := 50) (by decide +kernel), fun _ h => absurd h List.not_mem_nil⟩⟩⟩⟩, i_c_X1_areaOfAll⟩), List.forall_mem_append.mpr ⟨(by unfold wsV; exact List.forall_mem_append.mpr ⟨List.forall_mem_cons.mpr ⟨List.mem_of_getElem? (i := 354) (by decide +kernel), List.forall_mem_cons.mpr ⟨List.mem_of_getElem? (i := 355) (by decide +kernel), List.forall_mem_cons.mpr ⟨List.mem_of_getElem? (i := 356) (by decide +kernel), List.forall_mem_cons.mpr ⟨List.mem_of_getElem? (i := 50) (by decide +kernel), fun _ h => absurd h List.not_mem_nil⟩⟩⟩⟩, i_c_X1_areaGoneRound⟩), (by unfold wsV; exact List.forall_mem_append.mpr ⟨List.forall_mem_cons.mpr ⟨List.mem_of_getElem? (i := 359) (by decide +kernel), List.forall_mem_cons.mpr ⟨List.mem_of_getElem? (i := 361) (by decide +kernel), List.forall_mem_cons.mpr ⟨List.mem_of_getElem? (i := 5) (by decide +kernel), List.forall_mem_cons.mpr ⟨List.mem_of_getElem? (i := 49) (by decide +kernel), fun _ h => absurd h List.not_mem_nil⟩⟩⟩⟩, i_c_X7_areSetStonesFitting⟩)⟩⟩⟩⟩⟩
set_option maxHeartbeats 4000000 in
set_option maxRecDepth 100000 in
theorem c_X7_isSound (l : Launch) (dC : Nat → ClassId) (dI : Nat → Nat → Nat) (e0 : Nat) (h0 hd hse hki hma hst hsp hlp htl hj hpr hqd : Nat) (sz : Nat) : Met l yX7_isSound v_c_X7_isSound ({ frames := 3, cells := 0, slots := 0, locals := 73 }) (fz_P (dC, dI) e0 [(h0, .inr (12, [.ref hd, .ref hse, .ref hki, .ref hma, .ref hst, .ref hsp, .ref hlp, .ref htl, .int 0, .int 0, .int 0, .int 0, .int 0, .int 0, .int 0, .long ((0 : Int32).toInt64)])), (hd, .inr (6, [.ref hj, .ref hpr, .ref hqd, .int 0, .int 0, .int 1]))] [] sz (fun q : Nat => sz ≤ q) [.ref h0]) (va_Qi (fun (r : Int32) (u : Unit) => r = 1) (fun (u : Unit) (t : State) => True) (fun q : Nat => sz ≤ q)) 0 0 (fun q : Nat => sz ≤ q) := by
  refine Met.ofW (cc := cX7_isSound) (maxL := 1) (ret := (some .boolean)) (by decide) rfl ?_
  intro p e s m args below meth c s₁ B hml hv
  obtain ⟨rfl, hsz, hP, hK, hD0, hAm⟩ := hv
  have hx := B.exec
  have hb := B.bytes
  have hr := B.returns
  have hts := atoms_spec (ws := v_c_X7_isSound) B.pre
  have hown : s.vm.findClass RX7 = some m.cls := findClass_of_methodNamed B.named
  have hlocks := B.notSynchronized
  subst hsz
  have hD := hD0
  generalize hAe : (fun q : Nat => s.heap.size ≤ q) = A at hAm ⊢
  have hA : ∀ q : Nat, s.heap.size ≤ q → A q := fun q h => by rw [← hAe]; exact h
  have hS : va_S A s.heap s.heap [] := va_S.rf
  have hP : va_P (dC, dI) vwCl [(h0, .inr (12, [.ref hd, .ref hse, .ref hki, .ref hma, .ref hst, .ref hsp, .ref hlp, .ref htl, .int 0, .int 0, .int 0, .int 0, .int 0, .int 0, .int 0, .long ((0 : Int32).toInt64)])), (hd, .inr (6, [.ref hj, .ref hpr, .ref hqd, .int 0, .int 0, .int 1]))] s.heap := hP
  have hl := lv_entry ([.ref h0]) (n := 1) (Nat.le_of_ble_eq_true rfl)
  rw [lg_entry_eq]
  generalize (lg_sl ([.ref h0]) ++ List.replicate (1 - (lg_sl ([.ref h0])).length) Slot.unset).toArray = ls at hl ⊢
  have hl : lv_has ls 1 [(0, .ref h0)] := hl
  refine lv_aload_n hx hb dX7_isSound_0 rfl (lv_at hl 0 rfl) ?_
  refine va_get (D := (dC, dI)) (ci := 12) (v := .ref hd) (C := RX7) (T := TX7) (N := 16) hx hb hts (fun _ h9 => List.mem_cons_of_mem _ (List.mem_append_right _ (List.mem_append_left _ h9))) hown hK hP 0 rfl rfl 0 (by decide) (hts _ (List.mem_cons_of_mem _ (List.mem_append_left _ (List.mem_of_getElem? (i := 0) rfl)))) (fun _ h9 => h9) rfl dX7_isSound_1 ?_
  have hPc := hP.sub (ws' := [(hd, .inr (6, [.ref hj, .ref hpr, .ref hqd, .int 0, .int 0, .int 1]))]) [1] rfl
  have hDc := hD.sub (ws' := [(hd, .inr (6, [.ref hj, .ref hpr, .ref hqd, .int 0, .int 0, .int 1]))]) [1] (by decide) rfl
  have hKc := hK.sub (tys' := []) [] rfl
  have hFc : ∀ q : Nat, s.heap.size ≤ q → A q := fun q h => hA q (Nat.le_trans hS.1 h)
  refine va_calli (va_runV (As := []) (rest := []) ⟨hx, hb, hml, hown, hts⟩ (c_X1_areaOfAll l dC dI e0 hd hj hpr hqd s.heap.size) (cwV 0 hts (goodIn_sub (fun _ h9 => List.mem_cons_of_mem _ (List.mem_append_right _ (List.mem_append_right _ (List.mem_append_left _ h9)))) (by decide +kernel)) rfl rfl rfl (by decide +kernel) ⟨(Nat.le_of_ble_eq_true rfl), (Nat.le_of_ble_eq_true rfl)⟩) ⟨fz_blind, va_recv hKc hPc (ci := 6) (q0 := 0) rfl rfl, fz_pre hPc hKc hDc hAm hS hFc⟩ rfl rfl hl.1 rfl (lv_room (Nat.le_of_ble_eq_true rfl)) dX7_isSound_4 ⟨(Nat.le_of_ble_eq_true rfl), (Nat.le_of_ble_eq_true rfl)⟩) hS (fun q _ h => hFc q h) hFc (fun r u t H1 locs ht hvm hw hB hz1 hk1 hS => ?_)
  obtain rfl := hw
  have hP := fz_keep hP hk1
  generalize H1 = H at hP hS ⊢
  have hP : va_P (dC, dI) vwCl [(h0, .inr (12, [.ref hd, .ref hse, .ref hki, .ref hma, .ref hst, .ref hsp, .ref hlp, .ref htl, .int 0, .int 0, .int 0, .int 0, .int 0, .int 0, .int 0, .long ((0 : Int32).toInt64)])), (hd, .inr (6, [.ref hj, .ref hpr, .ref hqd, .int 0, .int 0, .int 1]))] H := hP
  refine W.widen (k := 0) (n := 0) (Nat.le_of_ble_eq_true rfl) (Nat.le_of_ble_eq_true rfl) ?_
  refine lv_aload_n hx hb dX7_isSound_7 rfl (lv_at hl 0 rfl) ?_
  refine va_get (D := (dC, dI)) (ci := 12) (v := .ref hd) (C := RX7) (T := TX7) (N := 16) hx hb hts (fun _ h9 => List.mem_cons_of_mem _ (List.mem_append_right _ (List.mem_append_left _ h9))) hown hK hP 0 rfl rfl 0 (by decide) (hts _ (List.mem_cons_of_mem _ (List.mem_append_left _ (List.mem_of_getElem? (i := 0) rfl)))) (fun _ h9 => h9) rfl dX7_isSound_8 ?_
  have hPc := hP.sub (ws' := [(hd, .inr (6, [.ref hj, .ref hpr, .ref hqd, .int 0, .int 0, .int 1]))]) [1] rfl
  have hDc := hD.sub (ws' := [(hd, .inr (6, [.ref hj, .ref hpr, .ref hqd, .int 0, .int 0, .int 1]))]) [1] (by decide) rfl
  have hKc := hK.sub (tys' := []) [] rfl
  have hFc : ∀ q : Nat, H.size ≤ q → A q := fun q h => hA q (Nat.le_trans hS.1 h)
  refine va_calli (va_runV (As := []) (rest := [.int 0]) ⟨hx, hb, hml, hown, hts⟩ (c_X1_areaGoneRound l dC dI e0 hd hj hpr hqd H.size) (cwV 0 hts (goodIn_sub (fun _ h9 => List.mem_cons_of_mem _ (List.mem_append_right _ (List.mem_append_right _ (List.mem_append_right _ (List.mem_append_left _ h9))))) (by decide +kernel)) rfl rfl rfl (by decide +kernel) ⟨(Nat.le_of_ble_eq_true rfl), (Nat.le_of_ble_eq_true rfl)⟩) ⟨fz_blind, va_recv hKc hPc (ci := 6) (q0 := 0) rfl rfl, fz_pre hPc hKc hDc hAm hS hFc⟩ rfl rfl hl.1 rfl (lv_room (Nat.le_of_ble_eq_true rfl)) dX7_isSound_11 ⟨(Nat.le_of_ble_eq_true rfl), (Nat.le_of_ble_eq_true rfl)⟩) hS (fun q _ h => hFc q h) hFc (fun r u t H1 locs ht hvm hw hB hz1 hk1 hS => ?_)
  obtain rfl := hw
  have hP := fz_keep hP hk1
  generalize H1 = H at hP hS ⊢
  have hP : va_P (dC, dI) vwCl [(h0, .inr (12, [.ref hd, .ref hse, .ref hki, .ref hma, .ref hst, .ref hsp, .ref hlp, .ref htl, .int 0, .int 0, .int 0, .int 0, .int 0, .int 0, .int 0, .long ((0 : Int32).toInt64)])), (hd, .inr (6, [.ref hj, .ref hpr, .ref hqd, .int 0, .int 0, .int 1]))] H := hP
  refine W.widen (k := 0) (n := 0) (Nat.le_of_ble_eq_true rfl) (Nat.le_of_ble_eq_true rfl) ?_
  refine lv_icmp_ne (tgt := 42) hx hb dX7_isSound_14 (by decide) (fun c_9 => absurd (by decide) c_9) (fun _ => ?_)
  refine lv_aload_n hx hb dX7_isSound_17 rfl (lv_at hl 0 rfl) ?_
  have hPc := hP.sub (ws' := [(h0, .inr (12, [.ref hd, .ref hse, .ref hki, .ref hma, .ref hst, .ref hsp, .ref hlp, .ref htl, .int 0, .int 0, .int 0, .int 0, .int 0, .int 0, .int 0, .long ((0 : Int32).toInt64)])), (hd, .inr (6, [.ref hj, .ref hpr, .ref hqd, .int 0, .int 0, .int 1]))]) [0, 1] rfl
  have hDc := hD.sub (ws' := [(h0, .inr (12, [.ref hd, .ref hse, .ref hki, .ref hma, .ref hst, .ref hsp, .ref hlp, .ref htl, .int 0, .int 0, .int 0, .int 0, .int 0, .int 0, .int 0, .long ((0 : Int32).toInt64)])), (hd, .inr (6, [.ref hj, .ref hpr, .ref hqd, .int 0, .int 0, .int 1]))]) [0, 1] (by decide) rfl
  have hKc := hK.sub (tys' := []) [] rfl
  have hFc : ∀ q : Nat, H.size ≤ q → A q := fun q h => hA q (Nat.le_trans hS.1 h)
  refine va_calli (va_runV (As := []) (rest := []) ⟨hx, hb, hml, hown, hts⟩ (c_X7_areSetStonesFitting l dC dI e0 h0 hd hse hki hma hst hsp hlp htl hj hpr hqd H.size) (cwV 0 hts (goodIn_sub (fun _ h9 => List.mem_cons_of_mem _ (List.mem_append_right _ (List.mem_append_right _ (List.mem_append_right _ (List.mem_append_right _ h9))))) (by decide +kernel)) rfl rfl rfl (by decide +kernel) ⟨(Nat.le_of_ble_eq_true rfl), (Nat.le_of_ble_eq_true rfl)⟩) ⟨fz_blind, va_recv hKc hPc (ci := 12) (q0 := 0) rfl rfl, fz_pre hPc hKc hDc hAm hS hFc⟩ rfl rfl hl.1 rfl (lv_room (Nat.le_of_ble_eq_true rfl)) dX7_isSound_18 ⟨(Nat.le_of_ble_eq_true rfl), (Nat.le_of_ble_eq_true rfl)⟩) hS (fun q _ h => hFc q h) hFc (fun r u t H1 locs ht hvm hw hB hz1 hk1 hS => ?_)
  obtain rfl := hw
  have hP := fz_keep hP hk1
  generalize H1 = H at hP hS ⊢
  have hP : va_P (dC, dI) vwCl [(h0, .inr (12, [.ref hd, .ref hse, .ref hki, .ref hma, .ref hst, .ref hsp, .ref hlp, .ref htl, .int 0, .int 0, .int 0, .int 0, .int 0, .int 0, .int 0, .long ((0 : Int32).toInt64)])), (hd, .inr (6, [.ref hj, .ref hpr, .ref hqd, .int 0, .int 0, .int 1]))] H := hP
  refine W.widen (k := 0) (n := 0) (Nat.le_of_ble_eq_true rfl) (Nat.le_of_ble_eq_true rfl) ?_
  refine lv_if_eq (tgt := 42) hx hb dX7_isSound_21 (by decide) (fun c_9 => absurd c_9 (by decide)) (fun _ => ?_)
  refine lv_aload_n hx hb dX7_isSound_24 rfl (lv_at hl 0 rfl) ?_
  refine va_get (D := (dC, dI)) (ci := 12) (v := .int 0) (C := RX7) (T := TX7) (N := 16) hx hb hts (fun _ h9 => List.mem_cons_of_mem _ (List.mem_append_right _ (List.mem_append_left _ h9))) hown hK hP 0 rfl rfl 12 (by decide) (hts _ (List.mem_cons_of_mem _ (List.mem_append_left _ (List.mem_of_getElem? (i := 1) rfl)))) (fun _ h9 => h9) rfl dX7_isSound_25 ?_
  refine lv_if_eq (tgt := 38) hx hb dX7_isSound_28 (by decide) (fun _ => ?_) (fun c_9 => absurd (by decide) c_9)
  refine lv_iconst (v := 1) hx hb dX7_isSound_38 (by decide) ?_
  refine lv_goto (tgt := 43) hx hb dX7_isSound_39 (by decide) ?_
  refine W.widen (k := 0) (n := 0) (Nat.le_of_ble_eq_true rfl) (Nat.le_of_ble_eq_true rfl) ?_
  exact W.zret (v := 1) hx hb hr rfl (fun t ht hW => ⟨⟨1, (), rfl, rfl, trivial⟩, hS.F ht⟩) hS.2.2 dX7_isSound_43
