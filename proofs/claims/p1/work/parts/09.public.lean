def an_setWorlds (n : Int32) : Int32 := if 1 ≤ n.toInt ∧ n.toInt ≤ 6 then 1 else -2
def an_setLetter (w k : Int32) : Int32 := if w.toInt = 0 ∧ 0 ≤ k.toInt ∧ k.toInt ≤ 3 then 0 else -1
def an_setTransition (g a b : Int32) : Int32 := if 0 ≤ g.toInt ∧ g.toInt ≤ 2 ∧ a.toInt = 0 ∧ b.toInt = 0 then 0 else -1
def an_letters (w : Int32) : Int32 := if w.toInt = 0 then 0 else -1
def an_successors (g w : Int32) : Int32 := if 0 ≤ g.toInt ∧ g.toInt ≤ 2 ∧ w.toInt = 0 then 0 else -1
def an_appendChar (g : Int32) : Int32 := if 0 ≤ g.toInt ∧ g.toInt ≤ 127 then 1 else -2
def an_distinguish (w k : Int32) : Int32 := if w.toInt = 0 ∧ k.toInt = 0 then -5 else -1
def an_compare (b : Int32) : Int32 := if 0 ≤ b.toInt ∧ b.toInt ≤ 5 then -5 else -1
def an_count (k : Int32) : Int32 := if k.toInt = 0 then 1 else if 1 ≤ k.toInt ∧ k.toInt ≤ 3 then 0 else -1
def an_allocate (b y n : Int32) : Int32 := if ¬ (0 ≤ b.toInt ∧ b.toInt ≤ 5) then -1 else if y.toInt = -1 then 1 else if ¬ (0 ≤ y.toInt ∧ y.toInt ≤ 4) ∨ 60 < n.toInt then -2 else if n.toInt < 0 then -14 else 1
def an_store (b : Int32) : Int32 := if 0 ≤ b.toInt ∧ b.toInt ≤ 5 then -11 else -1
def an_copy (a b : Int32) : Int32 := if (0 ≤ a.toInt ∧ a.toInt ≤ 5) ∧ 0 ≤ b.toInt ∧ b.toInt ≤ 5 then -11 else -1
def sb_v (w k g : Int32) : Int32 := if (1 ≤ w.toInt ∧ w.toInt ≤ 6) ∧ (0 ≤ k.toInt ∧ k.toInt ≤ 4) ∧ (0 ≤ g.toInt ∧ g.toInt ≤ 3) ∧ (w * k + w * w * g).toInt ≤ 10 then w * k + w * w * g else -1
theorem bc_0 {f : Nat → Int32} {w : Int32} (h : f 0 = 0) (hw : 0 ≤ w ∧ w < 1) : at_v f 6 w = an_letters w := by
  have hw0 : w = 0 := by
    obtain ⟨h1, h2⟩ := hw
    simp only [fa_le, fa_lt, ti_0, ti_1] at h1 h2
    rw [fa_eq, ti_0]
    omega
  subst hw0
  exact (at_in (f := f) (n := 6) (i := 0) (vp_in_nI (n := 0) (N := 6) (by decide) (by decide))).symm.trans (h.trans (by decide))
theorem dX11_isProgram_0 : decode cX11_isProgram 0 = .ok (.iload_n 0, 1) := by decide +kernel
theorem dX11_isProgram_1 : decode cX11_isProgram 1 = .ok (.ifCond .lt 12, 3) := by decide +kernel
theorem dX11_isProgram_4 : decode cX11_isProgram 4 = .ok (.iload_n 0, 1) := by decide +kernel
theorem dX11_isProgram_5 : decode cX11_isProgram 5 = .ok (.iconst 3, 1) := by decide +kernel
theorem dX11_isProgram_6 : decode cX11_isProgram 6 = .ok (.if_icmp .ge 7, 3) := by decide +kernel
theorem dX11_isProgram_9 : decode cX11_isProgram 9 = .ok (.iconst 1, 1) := by decide +kernel
theorem dX11_isProgram_10 : decode cX11_isProgram 10 = .ok (.goto 4, 3) := by decide +kernel
theorem dX11_isProgram_13 : decode cX11_isProgram 13 = .ok (.iconst 0, 1) := by decide +kernel
theorem dX11_isProgram_14 : decode cX11_isProgram 14 = .ok (.ireturn, 1) := by decide +kernel
def wo_X11_isProgram : List Cond := []
def wd_X11_isProgram : List Cond := .code yX11_isProgram cX11_isProgram 1 (some .boolean) :: (wo_X11_isProgram ++ ([] : List Cond))
theorem hd_X11_isProgram : yX11_isProgram.cls ≠ "java/lang/invoke/MethodHandle" ∧ yX11_isProgram.cls ≠ "java/lang/invoke/VarHandle" ∧ (parseMethodDescriptor yX11_isProgram.desc).map (fun d => d.parameters.length) = some 1 := by decide +kernel
set_option maxRecDepth 20000 in
theorem gw_X11_isProgram : wd_X11_isProgram.all goodWord = true := by decide +kernel
abbrev qc_X11_isProgram (D : va_G) (g : Int32) (A : Nat → Prop) : Array Value → State → Outcome → State → Prop := va_Qi (fun (r : Int32) (uZ : Unit) => (r = 1 ∧ (0 ≤ g ∧ g < 3)) ∨ (r = 0 ∧ ¬ (0 ≤ g ∧ g < 3))) (fun uZ tZ => kc_pos D A [] [] tZ) A
set_option maxHeartbeats 4000000 in
set_option maxRecDepth 100000 in
theorem ct_X11_isProgram (l : Launch) (D : va_G) (g : Int32) (sz : Nat)  : Met l yX11_isProgram wd_X11_isProgram ({ frames := 0, cells := 0, slots := 0, locals := 0 }) (va_Pc [.int g] (kc_pre D [] [] sz)) (qc_X11_isProgram D g (va_A [] sz)) 0 0 (va_A [] sz) := by
  refine Met.ofW (cc := cX11_isProgram) (maxL := 1) (ret := (some .boolean)) (by decide) rfl ?_
  intro p e s m args below meth c s₁ B hml hv
  obtain ⟨rfl, hsz, hP, hK, hN, hD0⟩ := hv
  have hx := B.exec
  have hb := B.bytes
  have hr := B.returns
  have hts := atoms_spec (ws := wd_X11_isProgram) B.pre
  have hown : s.vm.findClass RX11 = some m.cls := findClass_of_methodNamed B.named
  have hlocks := B.notSynchronized
  subst hsz
  have hD := hD0.self (sz := s.heap.size)
  generalize hAe : va_A [] s.heap.size = A at hD ⊢
  have hA : ∀ q : Nat, s.heap.size ≤ q → A q := fun q h => by rw [← hAe]; exact Or.inr h
  have hS : va_S A s.heap s.heap [] := va_S.rf
  have hl := lv_entry ([.int g]) (n := 1) (Nat.le_of_ble_eq_true rfl)
  rw [lg_entry_eq]
  generalize (lg_sl ([.int g]) ++ List.replicate (1 - (lg_sl ([.int g])).length) Slot.unset).toArray = ls at hl ⊢
  have hl : lv_has ls 1 [(0, .int g)] := hl
  refine lv_iload_n hx hb dX11_isProgram_0 rfl (lv_at hl 0 rfl) ?_
  refine lv_if_lt (tgt := 13) hx hb dX11_isProgram_1 (by decide) (fun c_1 => ?_) (fun c_1 => ?_)
  · refine lv_iconst (v := 0) hx hb dX11_isProgram_13 (by decide) ?_
    have hP9 := hP.sub (ws' := []) [] rfl
    have hD9 := hD.sub (ws' := []) [] (by decide) rfl
    have hK9 := hK.sub (tys' := []) [] rfl
    exact W.zret (v := 0) (ty := .boolean) hx hb hr rfl (fun tZ htZ hW => ⟨⟨0, (), rfl, (Or.inr ⟨rfl, by (try simp only [fa_lt, fa_le, fa_eq]); (try simp only [fa_lt, fa_le, fa_eq] at c_1); (try simp only [ti_0] at *); omega⟩), by rw [htZ]; exact hP9, va_K.moved hW.alike hK9, hD9⟩, hS.F htZ⟩) hS.2.2 dX11_isProgram_14
  · refine lv_iload_n hx hb dX11_isProgram_4 rfl (lv_at hl 0 rfl) ?_
    refine lv_iconst (v := 3) hx hb dX11_isProgram_5 (by decide) ?_
    refine lv_icmp_ge (tgt := 13) hx hb dX11_isProgram_6 (by decide) (fun c_2 => ?_) (fun c_2 => ?_)
    · refine lv_iconst (v := 0) hx hb dX11_isProgram_13 (by decide) ?_
      have hP9 := hP.sub (ws' := []) [] rfl
      have hD9 := hD.sub (ws' := []) [] (by decide) rfl
      have hK9 := hK.sub (tys' := []) [] rfl
      exact W.zret (v := 0) (ty := .boolean) hx hb hr rfl (fun tZ htZ hW => ⟨⟨0, (), rfl, (Or.inr ⟨rfl, by (try simp only [fa_lt, fa_le, fa_eq]); (try simp only [fa_lt, fa_le, fa_eq] at c_1); (try simp only [fa_lt, fa_le, fa_eq] at c_2); (try simp only [ti_0] at *); omega⟩), by rw [htZ]; exact hP9, va_K.moved hW.alike hK9, hD9⟩, hS.F htZ⟩) hS.2.2 dX11_isProgram_14
    · refine lv_iconst (v := 1) hx hb dX11_isProgram_9 (by decide) ?_
      refine lv_goto (tgt := 14) hx hb dX11_isProgram_10 (by decide) ?_
      have hP9 := hP.sub (ws' := []) [] rfl
      have hD9 := hD.sub (ws' := []) [] (by decide) rfl
      have hK9 := hK.sub (tys' := []) [] rfl
      exact W.zret (v := 1) (ty := .boolean) hx hb hr rfl (fun tZ htZ hW => ⟨⟨1, (), rfl, (Or.inl ⟨rfl, by (try simp only [fa_lt, fa_le, fa_eq]); (try simp only [fa_lt, fa_le, fa_eq] at c_1); (try simp only [fa_lt, fa_le, fa_eq] at c_2); (try simp only [ti_0] at *); omega⟩), by rw [htZ]; exact hP9, va_K.moved hW.alike hK9, hD9⟩, hS.F htZ⟩) hS.2.2 dX11_isProgram_14
theorem dX11_setWorlds_0 : decode cX11_setWorlds 0 = .ok (.iload_n 1, 1) := by decide +kernel
theorem dX11_setWorlds_1 : decode cX11_setWorlds 1 = .ok (.iconst 1, 1) := by decide +kernel
theorem dX11_setWorlds_2 : decode cX11_setWorlds 2 = .ok (.if_icmp .lt 9, 3) := by decide +kernel
theorem dX11_setWorlds_5 : decode cX11_setWorlds 5 = .ok (.iload_n 1, 1) := by decide +kernel
theorem dX11_setWorlds_6 : decode cX11_setWorlds 6 = .ok (.bipush 6, 2) := by decide +kernel
theorem dX11_setWorlds_8 : decode cX11_setWorlds 8 = .ok (.if_icmp .le 6, 3) := by decide +kernel
theorem dX11_setWorlds_11 : decode cX11_setWorlds 11 = .ok (.bipush (-2), 2) := by decide +kernel
theorem dX11_setWorlds_13 : decode cX11_setWorlds 13 = .ok (.ireturn, 1) := by decide +kernel
theorem dX11_setWorlds_14 : decode cX11_setWorlds 14 = .ok (.aload_n 0, 1) := by decide +kernel
theorem dX11_setWorlds_15 : decode cX11_setWorlds 15 = .ok (.getfield 12, 3) := by decide +kernel
theorem dX11_setWorlds_18 : decode cX11_setWorlds 18 = .ok (.invokevirtual 117, 3) := by decide +kernel
theorem dX11_setWorlds_21 : decode cX11_setWorlds 21 = .ok (.istore_n 2, 1) := by decide +kernel
theorem dX11_setWorlds_22 : decode cX11_setWorlds 22 = .ok (.aload_n 0, 1) := by decide +kernel
theorem dX11_setWorlds_23 : decode cX11_setWorlds 23 = .ok (.getfield 12, 3) := by decide +kernel
theorem dX11_setWorlds_26 : decode cX11_setWorlds 26 = .ok (.iload_n 1, 1) := by decide +kernel
theorem dX11_setWorlds_27 : decode cX11_setWorlds 27 = .ok (.invokevirtual 121, 3) := by decide +kernel
theorem dX11_setWorlds_30 : decode cX11_setWorlds 30 = .ok (.iload_n 2, 1) := by decide +kernel
theorem dX11_setWorlds_31 : decode cX11_setWorlds 31 = .ok (.ireturn, 1) := by decide +kernel
def wo_X11_setWorlds : List Cond := [.fieldLink RX11 12 "DynamicLogicProver" "model" "LDynamicLogicProver$Model;", .methodLink RX11 117 yX3_size, .instanceMethod yX3_size, .selects RX3 yX3_size yX3_size, .initialized RX3, .methodLink RX11 121 yX3_reset, .instanceMethod yX3_reset, .selects RX3 yX3_reset yX3_reset]
def wd_X11_setWorlds : List Cond := .code yX11_setWorlds cX11_setWorlds 3 (some .int) :: (wo_X11_setWorlds ++ (wd_X3_size ++ (wd_X3_reset ++ (wsX110 ++ ([] : List Cond)))))
theorem mo_X11_setWorlds {w : Cond} (i : Nat) (h : wo_X11_setWorlds[i]? = some w) : w ∈ wd_X11_setWorlds := List.mem_cons_of_mem _ (List.mem_append_left _ (List.mem_of_getElem? h))
theorem mb_X11_setWorlds_0 : ∀ w ∈ wd_X3_size, w ∈ wd_X11_setWorlds := fun w h => List.mem_cons_of_mem _ (List.mem_append_right _ (List.mem_append_left _ h))
theorem mb_X11_setWorlds_1 : ∀ w ∈ wd_X3_reset, w ∈ wd_X11_setWorlds := fun w h => List.mem_cons_of_mem _ (List.mem_append_right _ (List.mem_append_right _ (List.mem_append_left _ h)))
theorem mb_X11_setWorlds_2 : ∀ w ∈ wsX110, w ∈ wd_X11_setWorlds := fun w h => List.mem_cons_of_mem _ (List.mem_append_right _ (List.mem_append_right _ (List.mem_append_right _ (List.mem_append_left _ h))))
theorem hd_X11_setWorlds : yX11_setWorlds.cls ≠ "java/lang/invoke/MethodHandle" ∧ yX11_setWorlds.cls ≠ "java/lang/invoke/VarHandle" ∧ (parseMethodDescriptor yX11_setWorlds.desc).map (fun d => d.parameters.length) = some 1 := by decide +kernel
set_option maxRecDepth 20000 in
theorem gw_X11_setWorlds : wd_X11_setWorlds.all goodWord = true := by decide +kernel
abbrev qc_X11_setWorlds (D : va_G) (x : Nat) (mo : Nat) (sm : Nat) (sc : Nat) (fo : Nat) (sf : Nat) (bu : Nat) (po : Nat) (te : Nat) (pa : Nat) (rw : Nat) (tr : Nat) (cl : Nat) (pt : Nat) (ru : Nat) (de : Nat) (mt : Nat) (mv : Nat) (kmt : ClassId) (kmv : ClassId) (n : Int32) (A : Nat → Prop) : Array Value → State → Outcome → State → Prop := va_Qi (fun (r : Int32) (uZ : Unit) => r = an_setWorlds n) (fun uZ tZ => kc_pos D A [] [] tZ) A
set_option maxHeartbeats 4000000 in
set_option maxRecDepth 100000 in
theorem ct_X11_setWorlds (l : Launch) (D : va_G) (x : Nat) (mo : Nat) (sm : Nat) (sc : Nat) (fo : Nat) (sf : Nat) (bu : Nat) (po : Nat) (te : Nat) (pa : Nat) (rw : Nat) (tr : Nat) (cl : Nat) (pt : Nat) (ru : Nat) (de : Nat) (mt : Nat) (mv : Nat) (kmt : ClassId) (kmv : ClassId) (n : Int32) (sz : Nat)  : Met l yX11_setWorlds wd_X11_setWorlds ({ frames := 2, cells := 0, slots := 0, locals := 44 }) (va_Pc [.ref x, .int n] (kc_pre D [(kmt, .int), (kmv, .int)] [(x, .inr (11, [.ref mo, .ref sm, .ref sc, .ref fo, .ref sf, .ref bu, .ref po, .ref te, .ref pa, .ref rw, .ref tr, .ref cl, .ref pt, .ref ru, .ref de, .int 0, .int 0])), (mo, .inr (3, [.ref mt, .ref mv, .int 1])), (mt, .inl (kmt, 4, .inl (fun _ => 0))), (mv, .inl (kmv, 18, .inl (fun _ => 0)))] sz)) (qc_X11_setWorlds D x mo sm sc fo sf bu po te pa rw tr cl pt ru de mt mv kmt kmv n (va_A [(x, .inr (11, [.ref mo, .ref sm, .ref sc, .ref fo, .ref sf, .ref bu, .ref po, .ref te, .ref pa, .ref rw, .ref tr, .ref cl, .ref pt, .ref ru, .ref de, .int 0, .int 0])), (mo, .inr (3, [.ref mt, .ref mv, .int 1])), (mt, .inl (kmt, 4, .inl (fun _ => 0))), (mv, .inl (kmv, 18, .inl (fun _ => 0)))] sz)) 0 0 (va_A [(x, .inr (11, [.ref mo, .ref sm, .ref sc, .ref fo, .ref sf, .ref bu, .ref po, .ref te, .ref pa, .ref rw, .ref tr, .ref cl, .ref pt, .ref ru, .ref de, .int 0, .int 0])), (mo, .inr (3, [.ref mt, .ref mv, .int 1])), (mt, .inl (kmt, 4, .inl (fun _ => 0))), (mv, .inl (kmv, 18, .inl (fun _ => 0)))] sz) := by
  refine Met.ofW (cc := cX11_setWorlds) (maxL := 3) (ret := (some .int)) (by decide) rfl ?_
  intro p e s m args below meth c s₁ B hml hv
  obtain ⟨rfl, hsz, hP, hK, hN, hD0⟩ := hv
  have hx := B.exec
  have hb := B.bytes
  have hr := B.returns
  have hts := atoms_spec (ws := wd_X11_setWorlds) B.pre
  have hown : s.vm.findClass RX11 = some m.cls := findClass_of_methodNamed B.named
  have hlocks := B.notSynchronized
  subst hsz
  have hD := hD0.self (sz := s.heap.size)
  generalize hAe : va_A [(x, .inr (11, [.ref mo, .ref sm, .ref sc, .ref fo, .ref sf, .ref bu, .ref po, .ref te, .ref pa, .ref rw, .ref tr, .ref cl, .ref pt, .ref ru, .ref de, .int 0, .int 0])), (mo, .inr (3, [.ref mt, .ref mv, .int 1])), (mt, .inl (kmt, 4, .inl (fun _ => 0))), (mv, .inl (kmv, 18, .inl (fun _ => 0)))] s.heap.size = A at hD ⊢
  have hA : ∀ q : Nat, s.heap.size ≤ q → A q := fun q h => by rw [← hAe]; exact Or.inr h
  have hS : va_S A s.heap s.heap [] := va_S.rf
  have hiX11 : ∀ w ∈ wsX110, w ∈ wd_X11_setWorlds := mb_X11_setWorlds_2
  have hl := lv_entry ([.ref x, .int n]) (n := 3) (Nat.le_of_ble_eq_true rfl)
  rw [lg_entry_eq]
  generalize (lg_sl ([.ref x, .int n]) ++ List.replicate (3 - (lg_sl ([.ref x, .int n])).length) Slot.unset).toArray = ls at hl ⊢
  have hl : lv_has ls 3 [(0, .ref x), (1, .int n)] := hl
  refine lv_iload_n hx hb dX11_setWorlds_0 rfl (lv_at hl 1 rfl) ?_
  refine lv_iconst (v := 1) hx hb dX11_setWorlds_1 (by decide) ?_
  refine lv_icmp_lt (tgt := 11) hx hb dX11_setWorlds_2 (by decide) (fun c_1 => ?_) (fun c_1 => ?_)
  · refine lv_bipush (v := (-2)) hx hb dX11_setWorlds_11 (by decide) ?_
    have hP9 := hP.sub (ws' := []) [] rfl
    have hD9 := hD.sub (ws' := []) [] (by decide) rfl
    have hK9 := hK.sub (tys' := []) [] rfl
    exact W.iret (v := (-2)) hx hb hr (fun tZ htZ hW => ⟨⟨(-2), (), rfl, (by unfold an_setWorlds; first | rfl | ((repeat' split) <;> first | rfl | (exfalso; (try simp only [fa_lt, fa_le, fa_eq, ti_0, ti_1, ti_2, ti_3, ti_4, ti_5, ti_6, ti_8, ti_9, ti_10, ti_12, ti_18, ti_59, ti_60, ti_100, ti_127, ti_m1, ti_m2, ti_m3, ti_m4, ti_m5, ti_m10, ti_m11, ti_m12, ti_m13, ti_m14] at c_1); omega))), by rw [htZ]; exact hP9, va_K.moved hW.alike hK9, hD9⟩, hS.F htZ⟩) hS.2.2 dX11_setWorlds_13
  · refine lv_iload_n hx hb dX11_setWorlds_5 rfl (lv_at hl 1 rfl) ?_
    refine lv_bipush (v := 6) hx hb dX11_setWorlds_6 (by decide) ?_
    refine lv_icmp_le (tgt := 14) hx hb dX11_setWorlds_8 (by decide) (fun c_2 => ?_) (fun c_2 => ?_)
    · refine lv_aload_n hx hb dX11_setWorlds_14 rfl (lv_at hl 0 rfl) ?_
      refine va_get (D := D) (ci := 11) (v := .ref mo) (C := RX11) (T := TX11) (N := 17) hx hb hts hiX11 hown hK hP 0 rfl rfl 0 (by decide) (hts (.fieldLink RX11 12 "DynamicLogicProver" "model" "LDynamicLogicProver$Model;") (mo_X11_setWorlds 0 rfl)) (fun _ h9 => h9) rfl dX11_setWorlds_15 ?_
      refine kc_Vi (As := []) (rest := []) (wr := [(x, .inr (11, [.ref mo, .ref sm, .ref sc, .ref fo, .ref sf, .ref bu, .ref po, .ref te, .ref pa, .ref rw, .ref tr, .ref cl, .ref pt, .ref ru, .ref de, .int 0, .int 0])), (mt, .inl (kmt, 4, .inl (fun _ => 0))), (mv, .inl (kmv, 18, .inl (fun _ => 0)))]) ⟨hx, hb, hml, hown, hts⟩ (ct_X3_size l D mo mt mv 1 _ ) (cwV 0 hts (kg_V (mo_X11_setWorlds 1 rfl) (mo_X11_setWorlds 2 rfl) (mo_X11_setWorlds 3 rfl) (mo_X11_setWorlds 4 rfl) (goodIn_sub mb_X11_setWorlds_0 gw_X3_size)) rfl rfl rfl ⟨rfl, hd_X3_size⟩ ⟨Nat.le_of_ble_eq_true rfl, Nat.le_of_ble_eq_true rfl⟩) (RX3, TX3, 3) 3 1 rfl rfl rfl hK hN hP hD hS hA [1] [0, 2, 3] [] rfl rfl (by decide) (by decide) (by decide) rfl rfl hl.1 rfl (Nat.le_of_ble_eq_true rfl) dX11_setWorlds_18 ⟨Nat.le_of_ble_eq_true rfl, Nat.le_of_ble_eq_true rfl⟩ (fun r_3 u_4 H locs w_5 hP hD hK1 hS => ?_)
      have hP : va_P D vwCl [(x, .inr (11, [.ref mo, .ref sm, .ref sc, .ref fo, .ref sf, .ref bu, .ref po, .ref te, .ref pa, .ref rw, .ref tr, .ref cl, .ref pt, .ref ru, .ref de, .int 0, .int 0])), (mt, .inl (kmt, 4, .inl (fun _ => 0))), (mv, .inl (kmv, 18, .inl (fun _ => 0))), (mo, .inr (3, [.ref mt, .ref mv, .int 1]))] H := hP
      have hD : va_D A [(x, .inr (11, [.ref mo, .ref sm, .ref sc, .ref fo, .ref sf, .ref bu, .ref po, .ref te, .ref pa, .ref rw, .ref tr, .ref cl, .ref pt, .ref ru, .ref de, .int 0, .int 0])), (mt, .inl (kmt, 4, .inl (fun _ => 0))), (mv, .inl (kmv, 18, .inl (fun _ => 0))), (mo, .inr (3, [.ref mt, .ref mv, .int 1]))] := hD
      have w_5 : r_3 = 1 := w_5
      subst w_5
      refine lv_istore_n (lv' := [(2, .int 1), (0, .ref x), (1, .int n)]) hx hb dX11_setWorlds_21 rfl hl (by decide) rfl (fun ls hl => ?_)
      refine lv_aload_n hx hb dX11_setWorlds_22 rfl (lv_at hl 1 rfl) ?_
      refine va_get (D := D) (ci := 11) (v := .ref mo) (C := RX11) (T := TX11) (N := 17) hx hb hts hiX11 hown hK hP 0 rfl rfl 0 (by decide) (hts (.fieldLink RX11 12 "DynamicLogicProver" "model" "LDynamicLogicProver$Model;") (mo_X11_setWorlds 0 rfl)) (fun _ h9 => h9) rfl dX11_setWorlds_23 ?_
      refine lv_iload_n hx hb dX11_setWorlds_26 rfl (lv_at hl 2 rfl) ?_
      refine kc_Vv (As := [.int n]) (rest := []) (wr := [(x, .inr (11, [.ref mo, .ref sm, .ref sc, .ref fo, .ref sf, .ref bu, .ref po, .ref te, .ref pa, .ref rw, .ref tr, .ref cl, .ref pt, .ref ru, .ref de, .int 0, .int 0]))]) ⟨hx, hb, hml, hown, hts⟩ (ct_X3_reset l D mo mt mv kmt kmv (fun _ => 0) (fun _ => 0) 1 n _ ) (cwV 1 hts (kg_V (mo_X11_setWorlds 5 rfl) (mo_X11_setWorlds 6 rfl) (mo_X11_setWorlds 7 rfl) (mo_X11_setWorlds 4 rfl) (goodIn_sub mb_X11_setWorlds_1 gw_X3_reset)) rfl rfl rfl ⟨rfl, hd_X3_reset⟩ ⟨Nat.le_of_ble_eq_true rfl, Nat.le_of_ble_eq_true rfl⟩) (RX3, TX3, 3) 3 3 rfl rfl rfl hK hN hP hD hS hA [3, 1, 2] [0] [0, 1] rfl rfl (by decide) (by decide) (by decide) rfl rfl hl.1 rfl (Nat.le_of_ble_eq_true rfl) dX11_setWorlds_27 ⟨Nat.le_of_ble_eq_true rfl, Nat.le_of_ble_eq_true rfl⟩ (fun u_7 H locs w_8 hP hD hK1 hS => ?_)
      obtain ⟨o_9, o_10⟩ := u_7
      have hP : va_P D vwCl [(x, .inr (11, [.ref mo, .ref sm, .ref sc, .ref fo, .ref sf, .ref bu, .ref po, .ref te, .ref pa, .ref rw, .ref tr, .ref cl, .ref pt, .ref ru, .ref de, .int 0, .int 0])), (mo, .inr (3, [.ref mt, .ref mv, .int n])), (mt, .inl (kmt, 4, .inl o_9)), (mv, .inl (kmv, 18, .inl o_10))] H := hP
      have hD : va_D A [(x, .inr (11, [.ref mo, .ref sm, .ref sc, .ref fo, .ref sf, .ref bu, .ref po, .ref te, .ref pa, .ref rw, .ref tr, .ref cl, .ref pt, .ref ru, .ref de, .int 0, .int 0])), (mo, .inr (3, [.ref mt, .ref mv, .int n])), (mt, .inl (kmt, 4, .inl o_9)), (mv, .inl (kmv, 18, .inl o_10))] := hD
      refine lv_iload_n hx hb dX11_setWorlds_30 rfl (lv_at hl 0 rfl) ?_
      have hP9 := hP.sub (ws' := []) [] rfl
      have hD9 := hD.sub (ws' := []) [] (by decide) rfl
      have hK9 := hK.sub (tys' := []) [] rfl
      exact W.iret (v := 1) hx hb hr (fun tZ htZ hW => ⟨⟨1, (), rfl, (by unfold an_setWorlds; first | rfl | ((repeat' split) <;> first | rfl | (exfalso; (try simp only [fa_lt, fa_le, fa_eq, ti_0, ti_1, ti_2, ti_3, ti_4, ti_5, ti_6, ti_8, ti_9, ti_10, ti_12, ti_18, ti_59, ti_60, ti_100, ti_127, ti_m1, ti_m2, ti_m3, ti_m4, ti_m5, ti_m10, ti_m11, ti_m12, ti_m13, ti_m14] at c_1); (try simp only [fa_lt, fa_le, fa_eq, ti_0, ti_1, ti_2, ti_3, ti_4, ti_5, ti_6, ti_8, ti_9, ti_10, ti_12, ti_18, ti_59, ti_60, ti_100, ti_127, ti_m1, ti_m2, ti_m3, ti_m4, ti_m5, ti_m10, ti_m11, ti_m12, ti_m13, ti_m14] at c_2); (try simp only [fa_lt, fa_le, fa_eq, ti_0, ti_1, ti_2, ti_3, ti_4, ti_5, ti_6, ti_8, ti_9, ti_10, ti_12, ti_18, ti_59, ti_60, ti_100, ti_127, ti_m1, ti_m2, ti_m3, ti_m4, ti_m5, ti_m10, ti_m11, ti_m12, ti_m13, ti_m14] at w_5); omega))), by rw [htZ]; exact hP9, va_K.moved hW.alike hK9, hD9⟩, hS.F htZ⟩) hS.2.2 dX11_setWorlds_31
    · refine lv_bipush (v := (-2)) hx hb dX11_setWorlds_11 (by decide) ?_
      have hP9 := hP.sub (ws' := []) [] rfl
      have hD9 := hD.sub (ws' := []) [] (by decide) rfl
      have hK9 := hK.sub (tys' := []) [] rfl
      exact W.iret (v := (-2)) hx hb hr (fun tZ htZ hW => ⟨⟨(-2), (), rfl, (by unfold an_setWorlds; first | rfl | ((repeat' split) <;> first | rfl | (exfalso; (try simp only [fa_lt, fa_le, fa_eq, ti_0, ti_1, ti_2, ti_3, ti_4, ti_5, ti_6, ti_8, ti_9, ti_10, ti_12, ti_18, ti_59, ti_60, ti_100, ti_127, ti_m1, ti_m2, ti_m3, ti_m4, ti_m5, ti_m10, ti_m11, ti_m12, ti_m13, ti_m14] at c_1); (try simp only [fa_lt, fa_le, fa_eq, ti_0, ti_1, ti_2, ti_3, ti_4, ti_5, ti_6, ti_8, ti_9, ti_10, ti_12, ti_18, ti_59, ti_60, ti_100, ti_127, ti_m1, ti_m2, ti_m3, ti_m4, ti_m5, ti_m10, ti_m11, ti_m12, ti_m13, ti_m14] at c_2); omega))), by rw [htZ]; exact hP9, va_K.moved hW.alike hK9, hD9⟩, hS.F htZ⟩) hS.2.2 dX11_setWorlds_13
theorem dX11_setLetter_0 : decode cX11_setLetter 0 = .ok (.aload_n 0, 1) := by decide +kernel
theorem dX11_setLetter_1 : decode cX11_setLetter 1 = .ok (.getfield 12, 3) := by decide +kernel
theorem dX11_setLetter_4 : decode cX11_setLetter 4 = .ok (.iload_n 1, 1) := by decide +kernel
theorem dX11_setLetter_5 : decode cX11_setLetter 5 = .ok (.invokevirtual 125, 3) := by decide +kernel
theorem dX11_setLetter_8 : decode cX11_setLetter 8 = .ok (.ifCond .eq 12, 3) := by decide +kernel
theorem dX11_setLetter_11 : decode cX11_setLetter 11 = .ok (.iload_n 2, 1) := by decide +kernel
theorem dX11_setLetter_12 : decode cX11_setLetter 12 = .ok (.ifCond .lt 8, 3) := by decide +kernel
theorem dX11_setLetter_15 : decode cX11_setLetter 15 = .ok (.iload_n 2, 1) := by decide +kernel
theorem dX11_setLetter_16 : decode cX11_setLetter 16 = .ok (.iconst 4, 1) := by decide +kernel
theorem dX11_setLetter_17 : decode cX11_setLetter 17 = .ok (.if_icmp .lt 5, 3) := by decide +kernel
theorem dX11_setLetter_20 : decode cX11_setLetter 20 = .ok (.iconst (-1), 1) := by decide +kernel
theorem dX11_setLetter_21 : decode cX11_setLetter 21 = .ok (.ireturn, 1) := by decide +kernel
theorem dX11_setLetter_22 : decode cX11_setLetter 22 = .ok (.aload_n 0, 1) := by decide +kernel
theorem dX11_setLetter_23 : decode cX11_setLetter 23 = .ok (.getfield 12, 3) := by decide +kernel
theorem dX11_setLetter_26 : decode cX11_setLetter 26 = .ok (.iload_n 2, 1) := by decide +kernel
theorem dX11_setLetter_27 : decode cX11_setLetter 27 = .ok (.invokevirtual 129, 3) := by decide +kernel
theorem dX11_setLetter_30 : decode cX11_setLetter 30 = .ok (.iload_n 1, 1) := by decide +kernel
theorem dX11_setLetter_31 : decode cX11_setLetter 31 = .ok (.ishr, 1) := by decide +kernel
theorem dX11_setLetter_32 : decode cX11_setLetter 32 = .ok (.iconst 1, 1) := by decide +kernel
theorem dX11_setLetter_33 : decode cX11_setLetter 33 = .ok (.iand, 1) := by decide +kernel
theorem dX11_setLetter_34 : decode cX11_setLetter 34 = .ok (.istore 4, 2) := by decide +kernel
theorem dX11_setLetter_36 : decode cX11_setLetter 36 = .ok (.aload_n 0, 1) := by decide +kernel
theorem dX11_setLetter_37 : decode cX11_setLetter 37 = .ok (.getfield 12, 3) := by decide +kernel
theorem dX11_setLetter_40 : decode cX11_setLetter 40 = .ok (.iload_n 2, 1) := by decide +kernel
theorem dX11_setLetter_41 : decode cX11_setLetter 41 = .ok (.iload_n 1, 1) := by decide +kernel
theorem dX11_setLetter_42 : decode cX11_setLetter 42 = .ok (.iload_n 3, 1) := by decide +kernel
theorem dX11_setLetter_43 : decode cX11_setLetter 43 = .ok (.invokevirtual 133, 3) := by decide +kernel
theorem dX11_setLetter_46 : decode cX11_setLetter 46 = .ok (.iload 4, 2) := by decide +kernel
theorem dX11_setLetter_48 : decode cX11_setLetter 48 = .ok (.ireturn, 1) := by decide +kernel
def wo_X11_setLetter : List Cond := [.fieldLink RX11 12 "DynamicLogicProver" "model" "LDynamicLogicProver$Model;", .methodLink RX11 125 yX3_has, .instanceMethod yX3_has, .selects RX3 yX3_has yX3_has, .initialized RX3, .methodLink RX11 129 yX3_truths, .instanceMethod yX3_truths, .selects RX3 yX3_truths yX3_truths, .methodLink RX11 133 yX3_putTruth, .instanceMethod yX3_putTruth, .selects RX3 yX3_putTruth yX3_putTruth]
def wd_X11_setLetter : List Cond := .code yX11_setLetter cX11_setLetter 5 (some .int) :: (wo_X11_setLetter ++ (wd_X3_has ++ (wd_X3_truths ++ (wd_X3_putTruth ++ (wsX110 ++ ([] : List Cond))))))
theorem mo_X11_setLetter {w : Cond} (i : Nat) (h : wo_X11_setLetter[i]? = some w) : w ∈ wd_X11_setLetter := List.mem_cons_of_mem _ (List.mem_append_left _ (List.mem_of_getElem? h))
theorem mb_X11_setLetter_0 : ∀ w ∈ wd_X3_has, w ∈ wd_X11_setLetter := fun w h => List.mem_cons_of_mem _ (List.mem_append_right _ (List.mem_append_left _ h))
theorem mb_X11_setLetter_1 : ∀ w ∈ wd_X3_truths, w ∈ wd_X11_setLetter := fun w h => List.mem_cons_of_mem _ (List.mem_append_right _ (List.mem_append_right _ (List.mem_append_left _ h)))
theorem mb_X11_setLetter_2 : ∀ w ∈ wd_X3_putTruth, w ∈ wd_X11_setLetter := fun w h => List.mem_cons_of_mem _ (List.mem_append_right _ (List.mem_append_right _ (List.mem_append_right _ (List.mem_append_left _ h))))
theorem mb_X11_setLetter_3 : ∀ w ∈ wsX110, w ∈ wd_X11_setLetter := fun w h => List.mem_cons_of_mem _ (List.mem_append_right _ (List.mem_append_right _ (List.mem_append_right _ (List.mem_append_right _ (List.mem_append_left _ h)))))
theorem hd_X11_setLetter : yX11_setLetter.cls ≠ "java/lang/invoke/MethodHandle" ∧ yX11_setLetter.cls ≠ "java/lang/invoke/VarHandle" ∧ (parseMethodDescriptor yX11_setLetter.desc).map (fun d => d.parameters.length) = some 3 := by decide +kernel
set_option maxRecDepth 20000 in
theorem gw_X11_setLetter : wd_X11_setLetter.all goodWord = true := by decide +kernel
abbrev qc_X11_setLetter (D : va_G) (x : Nat) (mo : Nat) (sm : Nat) (sc : Nat) (fo : Nat) (sf : Nat) (bu : Nat) (po : Nat) (te : Nat) (pa : Nat) (rw : Nat) (tr : Nat) (cl : Nat) (pt : Nat) (ru : Nat) (de : Nat) (mt : Nat) (mv : Nat) (kmt : ClassId) (kmv : ClassId) (w : Int32) (k : Int32) (b : Int32) (A : Nat → Prop) : Array Value → State → Outcome → State → Prop := va_Qi (fun (r : Int32) (uZ : Unit) => r = an_setLetter w k) (fun uZ tZ => kc_pos D A [] [] tZ) A
set_option maxHeartbeats 4000000 in
set_option maxRecDepth 100000 in
theorem ct_X11_setLetter (l : Launch) (D : va_G) (x : Nat) (mo : Nat) (sm : Nat) (sc : Nat) (fo : Nat) (sf : Nat) (bu : Nat) (po : Nat) (te : Nat) (pa : Nat) (rw : Nat) (tr : Nat) (cl : Nat) (pt : Nat) (ru : Nat) (de : Nat) (mt : Nat) (mv : Nat) (kmt : ClassId) (kmv : ClassId) (w : Int32) (k : Int32) (b : Int32) (sz : Nat)  : Met l yX11_setLetter wd_X11_setLetter ({ frames := 2, cells := 0, slots := 0, locals := 46 }) (va_Pc [.ref x, .int w, .int k, .int b] (kc_pre D [(kmt, .int), (kmv, .int)] [(x, .inr (11, [.ref mo, .ref sm, .ref sc, .ref fo, .ref sf, .ref bu, .ref po, .ref te, .ref pa, .ref rw, .ref tr, .ref cl, .ref pt, .ref ru, .ref de, .int 0, .int 0])), (mo, .inr (3, [.ref mt, .ref mv, .int 1])), (mt, .inl (kmt, 4, .inl (fun _ => 0))), (mv, .inl (kmv, 18, .inl (fun _ => 0)))] sz)) (qc_X11_setLetter D x mo sm sc fo sf bu po te pa rw tr cl pt ru de mt mv kmt kmv w k b (va_A [(x, .inr (11, [.ref mo, .ref sm, .ref sc, .ref fo, .ref sf, .ref bu, .ref po, .ref te, .ref pa, .ref rw, .ref tr, .ref cl, .ref pt, .ref ru, .ref de, .int 0, .int 0])), (mo, .inr (3, [.ref mt, .ref mv, .int 1])), (mt, .inl (kmt, 4, .inl (fun _ => 0))), (mv, .inl (kmv, 18, .inl (fun _ => 0)))] sz)) 0 0 (va_A [(x, .inr (11, [.ref mo, .ref sm, .ref sc, .ref fo, .ref sf, .ref bu, .ref po, .ref te, .ref pa, .ref rw, .ref tr, .ref cl, .ref pt, .ref ru, .ref de, .int 0, .int 0])), (mo, .inr (3, [.ref mt, .ref mv, .int 1])), (mt, .inl (kmt, 4, .inl (fun _ => 0))), (mv, .inl (kmv, 18, .inl (fun _ => 0)))] sz) := by
  refine Met.ofW (cc := cX11_setLetter) (maxL := 5) (ret := (some .int)) (by decide) rfl ?_
  intro p e s m args below meth c s₁ B hml hv
  obtain ⟨rfl, hsz, hP, hK, hN, hD0⟩ := hv
  have hx := B.exec
  have hb := B.bytes
  have hr := B.returns
  have hts := atoms_spec (ws := wd_X11_setLetter) B.pre
  have hown : s.vm.findClass RX11 = some m.cls := findClass_of_methodNamed B.named
  have hlocks := B.notSynchronized
  subst hsz
  have hD := hD0.self (sz := s.heap.size)
  generalize hAe : va_A [(x, .inr (11, [.ref mo, .ref sm, .ref sc, .ref fo, .ref sf, .ref bu, .ref po, .ref te, .ref pa, .ref rw, .ref tr, .ref cl, .ref pt, .ref ru, .ref de, .int 0, .int 0])), (mo, .inr (3, [.ref mt, .ref mv, .int 1])), (mt, .inl (kmt, 4, .inl (fun _ => 0))), (mv, .inl (kmv, 18, .inl (fun _ => 0)))] s.heap.size = A at hD ⊢
  have hA : ∀ q : Nat, s.heap.size ≤ q → A q := fun q h => by rw [← hAe]; exact Or.inr h
  have hS : va_S A s.heap s.heap [] := va_S.rf
  have hiX11 : ∀ w ∈ wsX110, w ∈ wd_X11_setLetter := mb_X11_setLetter_3
  have hl := lv_entry ([.ref x, .int w, .int k, .int b]) (n := 5) (Nat.le_of_ble_eq_true rfl)
  rw [lg_entry_eq]
  generalize (lg_sl ([.ref x, .int w, .int k, .int b]) ++ List.replicate (5 - (lg_sl ([.ref x, .int w, .int k, .int b])).length) Slot.unset).toArray = ls at hl ⊢
  have hl : lv_has ls 5 [(0, .ref x), (1, .int w), (2, .int k), (3, .int b)] := hl
  refine lv_aload_n hx hb dX11_setLetter_0 rfl (lv_at hl 0 rfl) ?_
  refine va_get (D := D) (ci := 11) (v := .ref mo) (C := RX11) (T := TX11) (N := 17) hx hb hts hiX11 hown hK hP 0 rfl rfl 0 (by decide) (hts (.fieldLink RX11 12 "DynamicLogicProver" "model" "LDynamicLogicProver$Model;") (mo_X11_setLetter 0 rfl)) (fun _ h9 => h9) rfl dX11_setLetter_1 ?_
  refine lv_iload_n hx hb dX11_setLetter_4 rfl (lv_at hl 1 rfl) ?_
  refine kc_Vi (As := [.int w]) (rest := []) (wr := [(x, .inr (11, [.ref mo, .ref sm, .ref sc, .ref fo, .ref sf, .ref bu, .ref po, .ref te, .ref pa, .ref rw, .ref tr, .ref cl, .ref pt, .ref ru, .ref de, .int 0, .int 0])), (mt, .inl (kmt, 4, .inl (fun _ => 0))), (mv, .inl (kmv, 18, .inl (fun _ => 0)))]) ⟨hx, hb, hml, hown, hts⟩ (ct_X3_has l D mo mt mv 1 w _ ) (cwV 1 hts (kg_V (mo_X11_setLetter 1 rfl) (mo_X11_setLetter 2 rfl) (mo_X11_setLetter 3 rfl) (mo_X11_setLetter 4 rfl) (goodIn_sub mb_X11_setLetter_0 gw_X3_has)) rfl rfl rfl ⟨rfl, hd_X3_has⟩ ⟨Nat.le_of_ble_eq_true rfl, Nat.le_of_ble_eq_true rfl⟩) (RX3, TX3, 3) 3 1 rfl rfl rfl hK hN hP hD hS hA [1] [0, 2, 3] [] rfl rfl (by decide) (by decide) (by decide) rfl rfl hl.1 rfl (Nat.le_of_ble_eq_true rfl) dX11_setLetter_5 ⟨Nat.le_of_ble_eq_true rfl, Nat.le_of_ble_eq_true rfl⟩ (fun r_1 u_2 H locs w_3 hP hD hK1 hS => ?_)
  have hP : va_P D vwCl [(x, .inr (11, [.ref mo, .ref sm, .ref sc, .ref fo, .ref sf, .ref bu, .ref po, .ref te, .ref pa, .ref rw, .ref tr, .ref cl, .ref pt, .ref ru, .ref de, .int 0, .int 0])), (mt, .inl (kmt, 4, .inl (fun _ => 0))), (mv, .inl (kmv, 18, .inl (fun _ => 0))), (mo, .inr (3, [.ref mt, .ref mv, .int 1]))] H := hP
  have hD : va_D A [(x, .inr (11, [.ref mo, .ref sm, .ref sc, .ref fo, .ref sf, .ref bu, .ref po, .ref te, .ref pa, .ref rw, .ref tr, .ref cl, .ref pt, .ref ru, .ref de, .int 0, .int 0])), (mt, .inl (kmt, 4, .inl (fun _ => 0))), (mv, .inl (kmv, 18, .inl (fun _ => 0))), (mo, .inr (3, [.ref mt, .ref mv, .int 1]))] := hD
  have w_3 : (r_1 = 1 ∧ (0 ≤ w ∧ w < 1)) ∨ (r_1 = 0 ∧ ¬ (0 ≤ w ∧ w < 1)) := w_3
  rcases w_3 with ⟨rfl, b_3⟩ | ⟨rfl, b_3⟩
  · refine lv_if_eq (tgt := 20) hx hb dX11_setLetter_8 (by decide) (fun c_4 => ?_) (fun c_4 => ?_)
    · exact absurd c_4 (by decide)
    · refine lv_iload_n hx hb dX11_setLetter_11 rfl (lv_at hl 2 rfl) ?_
      refine lv_if_lt (tgt := 20) hx hb dX11_setLetter_12 (by decide) (fun c_5 => ?_) (fun c_5 => ?_)
      · refine lv_iconst (v := (-1)) hx hb dX11_setLetter_20 (by decide) ?_
        have hP9 := hP.sub (ws' := []) [] rfl
        have hD9 := hD.sub (ws' := []) [] (by decide) rfl
        have hK9 := hK.sub (tys' := []) [] rfl
        exact W.iret (v := (-1)) hx hb hr (fun tZ htZ hW => ⟨⟨(-1), (), rfl, (by unfold an_setLetter; first | rfl | ((repeat' split) <;> first | rfl | (exfalso; (try simp only [fa_lt, fa_le, fa_eq, ti_0, ti_1, ti_2, ti_3, ti_4, ti_5, ti_6, ti_8, ti_9, ti_10, ti_12, ti_18, ti_59, ti_60, ti_100, ti_127, ti_m1, ti_m2, ti_m3, ti_m4, ti_m5, ti_m10, ti_m11, ti_m12, ti_m13, ti_m14] at b_3); (try simp only [fa_lt, fa_le, fa_eq, ti_0, ti_1, ti_2, ti_3, ti_4, ti_5, ti_6, ti_8, ti_9, ti_10, ti_12, ti_18, ti_59, ti_60, ti_100, ti_127, ti_m1, ti_m2, ti_m3, ti_m4, ti_m5, ti_m10, ti_m11, ti_m12, ti_m13, ti_m14] at c_4); (try simp only [fa_lt, fa_le, fa_eq, ti_0, ti_1, ti_2, ti_3, ti_4, ti_5, ti_6, ti_8, ti_9, ti_10, ti_12, ti_18, ti_59, ti_60, ti_100, ti_127, ti_m1, ti_m2, ti_m3, ti_m4, ti_m5, ti_m10, ti_m11, ti_m12, ti_m13, ti_m14] at c_5); omega))), by rw [htZ]; exact hP9, va_K.moved hW.alike hK9, hD9⟩, hS.F htZ⟩) hS.2.2 dX11_setLetter_21
      · refine lv_iload_n hx hb dX11_setLetter_15 rfl (lv_at hl 2 rfl) ?_
        refine lv_iconst (v := 4) hx hb dX11_setLetter_16 (by decide) ?_
        refine lv_icmp_lt (tgt := 22) hx hb dX11_setLetter_17 (by decide) (fun c_6 => ?_) (fun c_6 => ?_)
        · refine lv_aload_n hx hb dX11_setLetter_22 rfl (lv_at hl 0 rfl) ?_
          refine va_get (D := D) (ci := 11) (v := .ref mo) (C := RX11) (T := TX11) (N := 17) hx hb hts hiX11 hown hK hP 0 rfl rfl 0 (by decide) (hts (.fieldLink RX11 12 "DynamicLogicProver" "model" "LDynamicLogicProver$Model;") (mo_X11_setLetter 0 rfl)) (fun _ h9 => h9) rfl dX11_setLetter_23 ?_
          refine lv_iload_n hx hb dX11_setLetter_26 rfl (lv_at hl 2 rfl) ?_
          refine kc_Vi (As := [.int k]) (rest := []) (wr := [(x, .inr (11, [.ref mo, .ref sm, .ref sc, .ref fo, .ref sf, .ref bu, .ref po, .ref te, .ref pa, .ref rw, .ref tr, .ref cl, .ref pt, .ref ru, .ref de, .int 0, .int 0])), (mv, .inl (kmv, 18, .inl (fun _ => 0)))]) ⟨hx, hb, hml, hown, hts⟩ (ct_X3_truths l D mo mt mv kmt (fun _ => 0) 1 k _ ) (cwV 1 hts (kg_V (mo_X11_setLetter 5 rfl) (mo_X11_setLetter 6 rfl) (mo_X11_setLetter 7 rfl) (mo_X11_setLetter 4 rfl) (goodIn_sub mb_X11_setLetter_1 gw_X3_truths)) rfl rfl rfl ⟨rfl, hd_X3_truths⟩ ⟨Nat.le_of_ble_eq_true rfl, Nat.le_of_ble_eq_true rfl⟩) (RX3, TX3, 3) 3 3 rfl rfl rfl hK hN hP hD hS hA [3, 1] [0, 2] [0] rfl rfl (by decide) (by decide) (by decide) rfl rfl hl.1 rfl (Nat.le_of_ble_eq_true rfl) dX11_setLetter_27 ⟨Nat.le_of_ble_eq_true rfl, Nat.le_of_ble_eq_true rfl⟩ (fun r_7 u_8 H locs w_9 hP hD hK1 hS => ?_)
          have hP : va_P D vwCl [(x, .inr (11, [.ref mo, .ref sm, .ref sc, .ref fo, .ref sf, .ref bu, .ref po, .ref te, .ref pa, .ref rw, .ref tr, .ref cl, .ref pt, .ref ru, .ref de, .int 0, .int 0])), (mv, .inl (kmv, 18, .inl (fun _ => 0))), (mo, .inr (3, [.ref mt, .ref mv, .int 1])), (mt, .inl (kmt, 4, .inl (fun _ => 0)))] H := hP
          have hD : va_D A [(x, .inr (11, [.ref mo, .ref sm, .ref sc, .ref fo, .ref sf, .ref bu, .ref po, .ref te, .ref pa, .ref rw, .ref tr, .ref cl, .ref pt, .ref ru, .ref de, .int 0, .int 0])), (mv, .inl (kmv, 18, .inl (fun _ => 0))), (mo, .inr (3, [.ref mt, .ref mv, .int 1])), (mt, .inl (kmt, 4, .inl (fun _ => 0)))] := hD
          have w_9 : r_7 = at_v (fun _ => 0) 4 k := w_9
          obtain rfl : r_7 = 0 := w_9.trans (at_v0 _ _)
          refine lv_iload_n hx hb dX11_setLetter_30 rfl (lv_at hl 1 rfl) ?_
          refine lv_ishr hx hb dX11_setLetter_31 ?_
          refine lv_topi (fun x_10 ex_10 => ?_)
          obtain rfl : x_10 = 0 := ex_10.trans (z_shr _)
          refine lv_iconst (v := 1) hx hb dX11_setLetter_32 (by decide) ?_
          refine lv_iand hx hb dX11_setLetter_33 ?_
          refine lv_topi (fun x_11 ex_11 => ?_)
          obtain rfl : x_11 = 0 := ex_11.trans (by decide)
          refine lv_istore (lv' := [(4, .int 0), (0, .ref x), (1, .int w), (2, .int k), (3, .int b)]) hx hb dX11_setLetter_34 hl (by decide) rfl (fun ls hl => ?_)
          refine lv_aload_n hx hb dX11_setLetter_36 rfl (lv_at hl 1 rfl) ?_
          refine va_get (D := D) (ci := 11) (v := .ref mo) (C := RX11) (T := TX11) (N := 17) hx hb hts hiX11 hown hK hP 0 rfl rfl 0 (by decide) (hts (.fieldLink RX11 12 "DynamicLogicProver" "model" "LDynamicLogicProver$Model;") (mo_X11_setLetter 0 rfl)) (fun _ h9 => h9) rfl dX11_setLetter_37 ?_
          refine lv_iload_n hx hb dX11_setLetter_40 rfl (lv_at hl 3 rfl) ?_
          refine lv_iload_n hx hb dX11_setLetter_41 rfl (lv_at hl 2 rfl) ?_
          refine lv_iload_n hx hb dX11_setLetter_42 rfl (lv_at hl 4 rfl) ?_
          refine kc_Vv (As := [.int k, .int w, .int b]) (rest := []) (wr := [(x, .inr (11, [.ref mo, .ref sm, .ref sc, .ref fo, .ref sf, .ref bu, .ref po, .ref te, .ref pa, .ref rw, .ref tr, .ref cl, .ref pt, .ref ru, .ref de, .int 0, .int 0])), (mv, .inl (kmv, 18, .inl (fun _ => 0)))]) ⟨hx, hb, hml, hown, hts⟩ (ct_X3_putTruth l D mo mt mv kmt (fun _ => 0) 1 k w b _ ) (cwV 3 hts (kg_V (mo_X11_setLetter 8 rfl) (mo_X11_setLetter 9 rfl) (mo_X11_setLetter 10 rfl) (mo_X11_setLetter 4 rfl) (goodIn_sub mb_X11_setLetter_2 gw_X3_putTruth)) rfl rfl rfl ⟨rfl, hd_X3_putTruth⟩ ⟨Nat.le_of_ble_eq_true rfl, Nat.le_of_ble_eq_true rfl⟩) (RX3, TX3, 3) 3 2 rfl rfl rfl hK hN hP hD hS hA [2, 3] [0, 1] [0] rfl rfl (by decide) (by decide) (by decide) rfl rfl hl.1 rfl (Nat.le_of_ble_eq_true rfl) dX11_setLetter_43 ⟨Nat.le_of_ble_eq_true rfl, Nat.le_of_ble_eq_true rfl⟩ (fun u_13 H locs w_14 hP hD hK1 hS => ?_)
          obtain ⟨o_15, rfl⟩ : ∃ z, z = u_13 := ⟨_, rfl⟩
          have hP : va_P D vwCl [(x, .inr (11, [.ref mo, .ref sm, .ref sc, .ref fo, .ref sf, .ref bu, .ref po, .ref te, .ref pa, .ref rw, .ref tr, .ref cl, .ref pt, .ref ru, .ref de, .int 0, .int 0])), (mv, .inl (kmv, 18, .inl (fun _ => 0))), (mo, .inr (3, [.ref mt, .ref mv, .int 1])), (mt, .inl (kmt, 4, .inl o_15))] H := hP
          have hD : va_D A [(x, .inr (11, [.ref mo, .ref sm, .ref sc, .ref fo, .ref sf, .ref bu, .ref po, .ref te, .ref pa, .ref rw, .ref tr, .ref cl, .ref pt, .ref ru, .ref de, .int 0, .int 0])), (mv, .inl (kmv, 18, .inl (fun _ => 0))), (mo, .inr (3, [.ref mt, .ref mv, .int 1])), (mt, .inl (kmt, 4, .inl o_15))] := hD
          refine lv_iload hx hb dX11_setLetter_46 (lv_at hl 0 rfl) ?_
          have hP9 := hP.sub (ws' := []) [] rfl
          have hD9 := hD.sub (ws' := []) [] (by decide) rfl
          have hK9 := hK.sub (tys' := []) [] rfl
          exact W.iret (v := 0) hx hb hr (fun tZ htZ hW => ⟨⟨0, (), rfl, (by unfold an_setLetter; first | rfl | ((repeat' split) <;> first | rfl | (exfalso; (try simp only [fa_lt, fa_le, fa_eq, ti_0, ti_1, ti_2, ti_3, ti_4, ti_5, ti_6, ti_8, ti_9, ti_10, ti_12, ti_18, ti_59, ti_60, ti_100, ti_127, ti_m1, ti_m2, ti_m3, ti_m4, ti_m5, ti_m10, ti_m11, ti_m12, ti_m13, ti_m14] at b_3); (try simp only [fa_lt, fa_le, fa_eq, ti_0, ti_1, ti_2, ti_3, ti_4, ti_5, ti_6, ti_8, ti_9, ti_10, ti_12, ti_18, ti_59, ti_60, ti_100, ti_127, ti_m1, ti_m2, ti_m3, ti_m4, ti_m5, ti_m10, ti_m11, ti_m12, ti_m13, ti_m14] at c_4); (try simp only [fa_lt, fa_le, fa_eq, ti_0, ti_1, ti_2, ti_3, ti_4, ti_5, ti_6, ti_8, ti_9, ti_10, ti_12, ti_18, ti_59, ti_60, ti_100, ti_127, ti_m1, ti_m2, ti_m3, ti_m4, ti_m5, ti_m10, ti_m11, ti_m12, ti_m13, ti_m14] at c_5); (try simp only [fa_lt, fa_le, fa_eq, ti_0, ti_1, ti_2, ti_3, ti_4, ti_5, ti_6, ti_8, ti_9, ti_10, ti_12, ti_18, ti_59, ti_60, ti_100, ti_127, ti_m1, ti_m2, ti_m3, ti_m4, ti_m5, ti_m10, ti_m11, ti_m12, ti_m13, ti_m14] at c_6); (try simp only [fa_lt, fa_le, fa_eq, ti_0, ti_1, ti_2, ti_3, ti_4, ti_5, ti_6, ti_8, ti_9, ti_10, ti_12, ti_18, ti_59, ti_60, ti_100, ti_127, ti_m1, ti_m2, ti_m3, ti_m4, ti_m5, ti_m10, ti_m11, ti_m12, ti_m13, ti_m14] at w_9); omega))), by rw [htZ]; exact hP9, va_K.moved hW.alike hK9, hD9⟩, hS.F htZ⟩) hS.2.2 dX11_setLetter_48
        · refine lv_iconst (v := (-1)) hx hb dX11_setLetter_20 (by decide) ?_
          have hP9 := hP.sub (ws' := []) [] rfl
          have hD9 := hD.sub (ws' := []) [] (by decide) rfl
          have hK9 := hK.sub (tys' := []) [] rfl
          exact W.iret (v := (-1)) hx hb hr (fun tZ htZ hW => ⟨⟨(-1), (), rfl, (by unfold an_setLetter; first | rfl | ((repeat' split) <;> first | rfl | (exfalso; (try simp only [fa_lt, fa_le, fa_eq, ti_0, ti_1, ti_2, ti_3, ti_4, ti_5, ti_6, ti_8, ti_9, ti_10, ti_12, ti_18, ti_59, ti_60, ti_100, ti_127, ti_m1, ti_m2, ti_m3, ti_m4, ti_m5, ti_m10, ti_m11, ti_m12, ti_m13, ti_m14] at b_3); (try simp only [fa_lt, fa_le, fa_eq, ti_0, ti_1, ti_2, ti_3, ti_4, ti_5, ti_6, ti_8, ti_9, ti_10, ti_12, ti_18, ti_59, ti_60, ti_100, ti_127, ti_m1, ti_m2, ti_m3, ti_m4, ti_m5, ti_m10, ti_m11, ti_m12, ti_m13, ti_m14] at c_4); (try simp only [fa_lt, fa_le, fa_eq, ti_0, ti_1, ti_2, ti_3, ti_4, ti_5, ti_6, ti_8, ti_9, ti_10, ti_12, ti_18, ti_59, ti_60, ti_100, ti_127, ti_m1, ti_m2, ti_m3, ti_m4, ti_m5, ti_m10, ti_m11, ti_m12, ti_m13, ti_m14] at c_5); (try simp only [fa_lt, fa_le, fa_eq, ti_0, ti_1, ti_2, ti_3, ti_4, ti_5, ti_6, ti_8, ti_9, ti_10, ti_12, ti_18, ti_59, ti_60, ti_100, ti_127, ti_m1, ti_m2, ti_m3, ti_m4, ti_m5, ti_m10, ti_m11, ti_m12, ti_m13, ti_m14] at c_6); omega))), by rw [htZ]; exact hP9, va_K.moved hW.alike hK9, hD9⟩, hS.F htZ⟩) hS.2.2 dX11_setLetter_21
  · refine lv_if_eq (tgt := 20) hx hb dX11_setLetter_8 (by decide) (fun c_16 => ?_) (fun c_16 => ?_)
    · refine lv_iconst (v := (-1)) hx hb dX11_setLetter_20 (by decide) ?_
      have hP9 := hP.sub (ws' := []) [] rfl
      have hD9 := hD.sub (ws' := []) [] (by decide) rfl
      have hK9 := hK.sub (tys' := []) [] rfl
      exact W.iret (v := (-1)) hx hb hr (fun tZ htZ hW => ⟨⟨(-1), (), rfl, (by unfold an_setLetter; first | rfl | ((repeat' split) <;> first | rfl | (exfalso; (try simp only [fa_lt, fa_le, fa_eq, ti_0, ti_1, ti_2, ti_3, ti_4, ti_5, ti_6, ti_8, ti_9, ti_10, ti_12, ti_18, ti_59, ti_60, ti_100, ti_127, ti_m1, ti_m2, ti_m3, ti_m4, ti_m5, ti_m10, ti_m11, ti_m12, ti_m13, ti_m14] at b_3); (try simp only [fa_lt, fa_le, fa_eq, ti_0, ti_1, ti_2, ti_3, ti_4, ti_5, ti_6, ti_8, ti_9, ti_10, ti_12, ti_18, ti_59, ti_60, ti_100, ti_127, ti_m1, ti_m2, ti_m3, ti_m4, ti_m5, ti_m10, ti_m11, ti_m12, ti_m13, ti_m14] at c_16); omega))), by rw [htZ]; exact hP9, va_K.moved hW.alike hK9, hD9⟩, hS.F htZ⟩) hS.2.2 dX11_setLetter_21
    · exact absurd c_16 (by decide)
theorem dX11_setTransition_0 : decode cX11_setTransition 0 = .ok (.iload_n 1, 1) := by decide +kernel
theorem dX11_setTransition_1 : decode cX11_setTransition 1 = .ok (.invokestatic 137, 3) := by decide +kernel
theorem dX11_setTransition_4 : decode cX11_setTransition 4 = .ok (.ifCond .eq 25, 3) := by decide +kernel
theorem dX11_setTransition_7 : decode cX11_setTransition 7 = .ok (.aload_n 0, 1) := by decide +kernel
theorem dX11_setTransition_8 : decode cX11_setTransition 8 = .ok (.getfield 12, 3) := by decide +kernel
theorem dX11_setTransition_11 : decode cX11_setTransition 11 = .ok (.iload_n 2, 1) := by decide +kernel
theorem dX11_setTransition_12 : decode cX11_setTransition 12 = .ok (.invokevirtual 125, 3) := by decide +kernel
theorem dX11_setTransition_15 : decode cX11_setTransition 15 = .ok (.ifCond .eq 14, 3) := by decide +kernel
theorem dX11_setTransition_18 : decode cX11_setTransition 18 = .ok (.aload_n 0, 1) := by decide +kernel
theorem dX11_setTransition_19 : decode cX11_setTransition 19 = .ok (.getfield 12, 3) := by decide +kernel
theorem dX11_setTransition_22 : decode cX11_setTransition 22 = .ok (.iload_n 3, 1) := by decide +kernel
theorem dX11_setTransition_23 : decode cX11_setTransition 23 = .ok (.invokevirtual 125, 3) := by decide +kernel
theorem dX11_setTransition_26 : decode cX11_setTransition 26 = .ok (.ifCond .ne 5, 3) := by decide +kernel
theorem dX11_setTransition_29 : decode cX11_setTransition 29 = .ok (.iconst (-1), 1) := by decide +kernel
theorem dX11_setTransition_30 : decode cX11_setTransition 30 = .ok (.ireturn, 1) := by decide +kernel
theorem dX11_setTransition_31 : decode cX11_setTransition 31 = .ok (.aload_n 0, 1) := by decide +kernel
theorem dX11_setTransition_32 : decode cX11_setTransition 32 = .ok (.getfield 12, 3) := by decide +kernel
theorem dX11_setTransition_35 : decode cX11_setTransition 35 = .ok (.iload_n 1, 1) := by decide +kernel
theorem dX11_setTransition_36 : decode cX11_setTransition 36 = .ok (.iload_n 2, 1) := by decide +kernel
theorem dX11_setTransition_37 : decode cX11_setTransition 37 = .ok (.invokevirtual 140, 3) := by decide +kernel
theorem dX11_setTransition_40 : decode cX11_setTransition 40 = .ok (.iload_n 3, 1) := by decide +kernel
theorem dX11_setTransition_41 : decode cX11_setTransition 41 = .ok (.ishr, 1) := by decide +kernel
theorem dX11_setTransition_42 : decode cX11_setTransition 42 = .ok (.iconst 1, 1) := by decide +kernel
theorem dX11_setTransition_43 : decode cX11_setTransition 43 = .ok (.iand, 1) := by decide +kernel
theorem dX11_setTransition_44 : decode cX11_setTransition 44 = .ok (.istore 5, 2) := by decide +kernel
theorem dX11_setTransition_46 : decode cX11_setTransition 46 = .ok (.aload_n 0, 1) := by decide +kernel
theorem dX11_setTransition_47 : decode cX11_setTransition 47 = .ok (.getfield 12, 3) := by decide +kernel
theorem dX11_setTransition_50 : decode cX11_setTransition 50 = .ok (.iload_n 1, 1) := by decide +kernel
theorem dX11_setTransition_51 : decode cX11_setTransition 51 = .ok (.iload_n 2, 1) := by decide +kernel
theorem dX11_setTransition_52 : decode cX11_setTransition 52 = .ok (.iload_n 3, 1) := by decide +kernel
theorem dX11_setTransition_53 : decode cX11_setTransition 53 = .ok (.iload 4, 2) := by decide +kernel
theorem dX11_setTransition_55 : decode cX11_setTransition 55 = .ok (.invokevirtual 144, 3) := by decide +kernel
theorem dX11_setTransition_58 : decode cX11_setTransition 58 = .ok (.iload 5, 2) := by decide +kernel
theorem dX11_setTransition_60 : decode cX11_setTransition 60 = .ok (.ireturn, 1) := by decide +kernel
def wo_X11_setTransition : List Cond := [.methodLink RX11 137 yX11_isProgram, .static yX11_isProgram, .initialized RX11, .fieldLink RX11 12 "DynamicLogicProver" "model" "LDynamicLogicProver$Model;", .methodLink RX11 125 yX3_has, .instanceMethod yX3_has, .selects RX3 yX3_has yX3_has, .initialized RX3, .methodLink RX11 140 yX3_moves, .instanceMethod yX3_moves, .selects RX3 yX3_moves yX3_moves, .methodLink RX11 144 yX3_putMove, .instanceMethod yX3_putMove, .selects RX3 yX3_putMove yX3_putMove]
def wd_X11_setTransition : List Cond := .code yX11_setTransition cX11_setTransition 6 (some .int) :: (wo_X11_setTransition ++ (wd_X11_isProgram ++ (wd_X3_has ++ (wd_X3_moves ++ (wd_X3_putMove ++ (wsX110 ++ ([] : List Cond)))))))
theorem mo_X11_setTransition {w : Cond} (i : Nat) (h : wo_X11_setTransition[i]? = some w) : w ∈ wd_X11_setTransition := List.mem_cons_of_mem _ (List.mem_append_left _ (List.mem_of_getElem? h))
theorem mb_X11_setTransition_0 : ∀ w ∈ wd_X11_isProgram, w ∈ wd_X11_setTransition := fun w h => List.mem_cons_of_mem _ (List.mem_append_right _ (List.mem_append_left _ h))
theorem mb_X11_setTransition_1 : ∀ w ∈ wd_X3_has, w ∈ wd_X11_setTransition := fun w h => List.mem_cons_of_mem _ (List.mem_append_right _ (List.mem_append_right _ (List.mem_append_left _ h)))
theorem mb_X11_setTransition_2 : ∀ w ∈ wd_X3_moves, w ∈ wd_X11_setTransition := fun w h => List.mem_cons_of_mem _ (List.mem_append_right _ (List.mem_append_right _ (List.mem_append_right _ (List.mem_append_left _ h))))
theorem mb_X11_setTransition_3 : ∀ w ∈ wd_X3_putMove, w ∈ wd_X11_setTransition := fun w h => List.mem_cons_of_mem _ (List.mem_append_right _ (List.mem_append_right _ (List.mem_append_right _ (List.mem_append_right _ (List.mem_append_left _ h)))))
theorem mb_X11_setTransition_4 : ∀ w ∈ wsX110, w ∈ wd_X11_setTransition := fun w h => List.mem_cons_of_mem _ (List.mem_append_right _ (List.mem_append_right _ (List.mem_append_right _ (List.mem_append_right _ (List.mem_append_right _ (List.mem_append_left _ h))))))
theorem hd_X11_setTransition : yX11_setTransition.cls ≠ "java/lang/invoke/MethodHandle" ∧ yX11_setTransition.cls ≠ "java/lang/invoke/VarHandle" ∧ (parseMethodDescriptor yX11_setTransition.desc).map (fun d => d.parameters.length) = some 4 := by decide +kernel
set_option maxRecDepth 20000 in
theorem gw_X11_setTransition : wd_X11_setTransition.all goodWord = true := by decide +kernel
abbrev qc_X11_setTransition (D : va_G) (x : Nat) (mo : Nat) (sm : Nat) (sc : Nat) (fo : Nat) (sf : Nat) (bu : Nat) (po : Nat) (te : Nat) (pa : Nat) (rw : Nat) (tr : Nat) (cl : Nat) (pt : Nat) (ru : Nat) (de : Nat) (mt : Nat) (mv : Nat) (kmt : ClassId) (kmv : ClassId) (g : Int32) (a : Int32) (b : Int32) (k : Int32) (A : Nat → Prop) : Array Value → State → Outcome → State → Prop := va_Qi (fun (r : Int32) (uZ : Unit) => r = an_setTransition g a b) (fun uZ tZ => kc_pos D A [] [] tZ) A
set_option maxHeartbeats 4000000 in
set_option maxRecDepth 100000 in
theorem ct_X11_setTransition (l : Launch) (D : va_G) (x : Nat) (mo : Nat) (sm : Nat) (sc : Nat) (fo : Nat) (sf : Nat) (bu : Nat) (po : Nat) (te : Nat) (pa : Nat) (rw : Nat) (tr : Nat) (cl : Nat) (pt : Nat) (ru : Nat) (de : Nat) (mt : Nat) (mv : Nat) (kmt : ClassId) (kmv : ClassId) (g : Int32) (a : Int32) (b : Int32) (k : Int32) (sz : Nat)  : Met l yX11_setTransition wd_X11_setTransition ({ frames := 2, cells := 0, slots := 0, locals := 48 }) (va_Pc [.ref x, .int g, .int a, .int b, .int k] (kc_pre D [(kmt, .int), (kmv, .int)] [(x, .inr (11, [.ref mo, .ref sm, .ref sc, .ref fo, .ref sf, .ref bu, .ref po, .ref te, .ref pa, .ref rw, .ref tr, .ref cl, .ref pt, .ref ru, .ref de, .int 0, .int 0])), (mo, .inr (3, [.ref mt, .ref mv, .int 1])), (mt, .inl (kmt, 4, .inl (fun _ => 0))), (mv, .inl (kmv, 18, .inl (fun _ => 0)))] sz)) (qc_X11_setTransition D x mo sm sc fo sf bu po te pa rw tr cl pt ru de mt mv kmt kmv g a b k (va_A [(x, .inr (11, [.ref mo, .ref sm, .ref sc, .ref fo, .ref sf, .ref bu, .ref po, .ref te, .ref pa, .ref rw, .ref tr, .ref cl, .ref pt, .ref ru, .ref de, .int 0, .int 0])), (mo, .inr (3, [.ref mt, .ref mv, .int 1])), (mt, .inl (kmt, 4, .inl (fun _ => 0))), (mv, .inl (kmv, 18, .inl (fun _ => 0)))] sz)) 0 0 (va_A [(x, .inr (11, [.ref mo, .ref sm, .ref sc, .ref fo, .ref sf, .ref bu, .ref po, .ref te, .ref pa, .ref rw, .ref tr, .ref cl, .ref pt, .ref ru, .ref de, .int 0, .int 0])), (mo, .inr (3, [.ref mt, .ref mv, .int 1])), (mt, .inl (kmt, 4, .inl (fun _ => 0))), (mv, .inl (kmv, 18, .inl (fun _ => 0)))] sz) := by
  refine Met.ofW (cc := cX11_setTransition) (maxL := 6) (ret := (some .int)) (by decide) rfl ?_
  intro p e s m args below meth c s₁ B hml hv
  obtain ⟨rfl, hsz, hP, hK, hN, hD0⟩ := hv
  have hx := B.exec
  have hb := B.bytes
  have hr := B.returns
  have hts := atoms_spec (ws := wd_X11_setTransition) B.pre
  have hown : s.vm.findClass RX11 = some m.cls := findClass_of_methodNamed B.named
  have hlocks := B.notSynchronized
  subst hsz
  have hD := hD0.self (sz := s.heap.size)
  generalize hAe : va_A [(x, .inr (11, [.ref mo, .ref sm, .ref sc, .ref fo, .ref sf, .ref bu, .ref po, .ref te, .ref pa, .ref rw, .ref tr, .ref cl, .ref pt, .ref ru, .ref de, .int 0, .int 0])), (mo, .inr (3, [.ref mt, .ref mv, .int 1])), (mt, .inl (kmt, 4, .inl (fun _ => 0))), (mv, .inl (kmv, 18, .inl (fun _ => 0)))] s.heap.size = A at hD ⊢
  have hA : ∀ q : Nat, s.heap.size ≤ q → A q := fun q h => by rw [← hAe]; exact Or.inr h
  have hS : va_S A s.heap s.heap [] := va_S.rf
  have hiX11 : ∀ w ∈ wsX110, w ∈ wd_X11_setTransition := mb_X11_setTransition_4
  have hl := lv_entry ([.ref x, .int g, .int a, .int b, .int k]) (n := 6) (Nat.le_of_ble_eq_true rfl)
  rw [lg_entry_eq]
  generalize (lg_sl ([.ref x, .int g, .int a, .int b, .int k]) ++ List.replicate (6 - (lg_sl ([.ref x, .int g, .int a, .int b, .int k])).length) Slot.unset).toArray = ls at hl ⊢
  have hl : lv_has ls 6 [(0, .ref x), (1, .int g), (2, .int a), (3, .int b), (4, .int k)] := hl
  refine lv_iload_n hx hb dX11_setTransition_0 rfl (lv_at hl 1 rfl) ?_
  refine kc_Si (As := [.int g]) (rest := []) (wr := [(x, .inr (11, [.ref mo, .ref sm, .ref sc, .ref fo, .ref sf, .ref bu, .ref po, .ref te, .ref pa, .ref rw, .ref tr, .ref cl, .ref pt, .ref ru, .ref de, .int 0, .int 0])), (mo, .inr (3, [.ref mt, .ref mv, .int 1])), (mt, .inl (kmt, 4, .inl (fun _ => 0))), (mv, .inl (kmv, 18, .inl (fun _ => 0)))]) ⟨hx, hb, hml, hown, hts⟩ (ct_X11_isProgram l D g _ ) (va_cwS 1 hts (kg_S (mo_X11_setTransition 0 rfl) (mo_X11_setTransition 1 rfl) (mo_X11_setTransition 2 rfl) (goodIn_sub mb_X11_setTransition_0 gw_X11_isProgram)) rfl rfl rfl hd_X11_isProgram ⟨Nat.le_of_ble_eq_true rfl, Nat.le_of_ble_eq_true rfl⟩) hK hN hP hD hS hA [] [0, 1, 2, 3] [] rfl rfl (by decide) (by decide) (by decide) rfl rfl hl.1 rfl (Nat.le_of_ble_eq_true rfl) dX11_setTransition_1 ⟨Nat.le_of_ble_eq_true rfl, Nat.le_of_ble_eq_true rfl⟩ (fun r_1 u_2 H locs w_3 hP hD hK1 hS => ?_)
  have hP : va_P D vwCl [(x, .inr (11, [.ref mo, .ref sm, .ref sc, .ref fo, .ref sf, .ref bu, .ref po, .ref te, .ref pa, .ref rw, .ref tr, .ref cl, .ref pt, .ref ru, .ref de, .int 0, .int 0])), (mo, .inr (3, [.ref mt, .ref mv, .int 1])), (mt, .inl (kmt, 4, .inl (fun _ => 0))), (mv, .inl (kmv, 18, .inl (fun _ => 0)))] H := hP
  have hD : va_D A [(x, .inr (11, [.ref mo, .ref sm, .ref sc, .ref fo, .ref sf, .ref bu, .ref po, .ref te, .ref pa, .ref rw, .ref tr, .ref cl, .ref pt, .ref ru, .ref de, .int 0, .int 0])), (mo, .inr (3, [.ref mt, .ref mv, .int 1])), (mt, .inl (kmt, 4, .inl (fun _ => 0))), (mv, .inl (kmv, 18, .inl (fun _ => 0)))] := hD
  have w_3 : (r_1 = 1 ∧ (0 ≤ g ∧ g < 3)) ∨ (r_1 = 0 ∧ ¬ (0 ≤ g ∧ g < 3)) := w_3
  rcases w_3 with ⟨rfl, b_3⟩ | ⟨rfl, b_3⟩
  · refine lv_if_eq (tgt := 29) hx hb dX11_setTransition_4 (by decide) (fun c_4 => ?_) (fun c_4 => ?_)
    · exact absurd c_4 (by decide)
    · refine lv_aload_n hx hb dX11_setTransition_7 rfl (lv_at hl 0 rfl) ?_
      refine va_get (D := D) (ci := 11) (v := .ref mo) (C := RX11) (T := TX11) (N := 17) hx hb hts hiX11 hown hK hP 0 rfl rfl 0 (by decide) (hts (.fieldLink RX11 12 "DynamicLogicProver" "model" "LDynamicLogicProver$Model;") (mo_X11_setTransition 3 rfl)) (fun _ h9 => h9) rfl dX11_setTransition_8 ?_
      refine lv_iload_n hx hb dX11_setTransition_11 rfl (lv_at hl 2 rfl) ?_
      refine kc_Vi (As := [.int a]) (rest := []) (wr := [(x, .inr (11, [.ref mo, .ref sm, .ref sc, .ref fo, .ref sf, .ref bu, .ref po, .ref te, .ref pa, .ref rw, .ref tr, .ref cl, .ref pt, .ref ru, .ref de, .int 0, .int 0])), (mt, .inl (kmt, 4, .inl (fun _ => 0))), (mv, .inl (kmv, 18, .inl (fun _ => 0)))]) ⟨hx, hb, hml, hown, hts⟩ (ct_X3_has l D mo mt mv 1 a _ ) (cwV 1 hts (kg_V (mo_X11_setTransition 4 rfl) (mo_X11_setTransition 5 rfl) (mo_X11_setTransition 6 rfl) (mo_X11_setTransition 7 rfl) (goodIn_sub mb_X11_setTransition_1 gw_X3_has)) rfl rfl rfl ⟨rfl, hd_X3_has⟩ ⟨Nat.le_of_ble_eq_true rfl, Nat.le_of_ble_eq_true rfl⟩) (RX3, TX3, 3) 3 1 rfl rfl rfl hK hN hP hD hS hA [1] [0, 2, 3] [] rfl rfl (by decide) (by decide) (by decide) rfl rfl hl.1 rfl (Nat.le_of_ble_eq_true rfl) dX11_setTransition_12 ⟨Nat.le_of_ble_eq_true rfl, Nat.le_of_ble_eq_true rfl⟩ (fun r_5 u_6 H locs w_7 hP hD hK1 hS => ?_)
      have hP : va_P D vwCl [(x, .inr (11, [.ref mo, .ref sm, .ref sc, .ref fo, .ref sf, .ref bu, .ref po, .ref te, .ref pa, .ref rw, .ref tr, .ref cl, .ref pt, .ref ru, .ref de, .int 0, .int 0])), (mt, .inl (kmt, 4, .inl (fun _ => 0))), (mv, .inl (kmv, 18, .inl (fun _ => 0))), (mo, .inr (3, [.ref mt, .ref mv, .int 1]))] H := hP
      have hD : va_D A [(x, .inr (11, [.ref mo, .ref sm, .ref sc, .ref fo, .ref sf, .ref bu, .ref po, .ref te, .ref pa, .ref rw, .ref tr, .ref cl, .ref pt, .ref ru, .ref de, .int 0, .int 0])), (mt, .inl (kmt, 4, .inl (fun _ => 0))), (mv, .inl (kmv, 18, .inl (fun _ => 0))), (mo, .inr (3, [.ref mt, .ref mv, .int 1]))] := hD
      have w_7 : (r_5 = 1 ∧ (0 ≤ a ∧ a < 1)) ∨ (r_5 = 0 ∧ ¬ (0 ≤ a ∧ a < 1)) := w_7
      rcases w_7 with ⟨rfl, b_7⟩ | ⟨rfl, b_7⟩
      · refine lv_if_eq (tgt := 29) hx hb dX11_setTransition_15 (by decide) (fun c_8 => ?_) (fun c_8 => ?_)
        · exact absurd c_8 (by decide)
        · refine lv_aload_n hx hb dX11_setTransition_18 rfl (lv_at hl 0 rfl) ?_
          refine va_get (D := D) (ci := 11) (v := .ref mo) (C := RX11) (T := TX11) (N := 17) hx hb hts hiX11 hown hK hP 0 rfl rfl 0 (by decide) (hts (.fieldLink RX11 12 "DynamicLogicProver" "model" "LDynamicLogicProver$Model;") (mo_X11_setTransition 3 rfl)) (fun _ h9 => h9) rfl dX11_setTransition_19 ?_
          refine lv_iload_n hx hb dX11_setTransition_22 rfl (lv_at hl 3 rfl) ?_
          refine kc_Vi (As := [.int b]) (rest := []) (wr := [(x, .inr (11, [.ref mo, .ref sm, .ref sc, .ref fo, .ref sf, .ref bu, .ref po, .ref te, .ref pa, .ref rw, .ref tr, .ref cl, .ref pt, .ref ru, .ref de, .int 0, .int 0])), (mt, .inl (kmt, 4, .inl (fun _ => 0))), (mv, .inl (kmv, 18, .inl (fun _ => 0)))]) ⟨hx, hb, hml, hown, hts⟩ (ct_X3_has l D mo mt mv 1 b _ ) (cwV 1 hts (kg_V (mo_X11_setTransition 4 rfl) (mo_X11_setTransition 5 rfl) (mo_X11_setTransition 6 rfl) (mo_X11_setTransition 7 rfl) (goodIn_sub mb_X11_setTransition_1 gw_X3_has)) rfl rfl rfl ⟨rfl, hd_X3_has⟩ ⟨Nat.le_of_ble_eq_true rfl, Nat.le_of_ble_eq_true rfl⟩) (RX3, TX3, 3) 3 3 rfl rfl rfl hK hN hP hD hS hA [3] [0, 1, 2] [] rfl rfl (by decide) (by decide) (by decide) rfl rfl hl.1 rfl (Nat.le_of_ble_eq_true rfl) dX11_setTransition_23 ⟨Nat.le_of_ble_eq_true rfl, Nat.le_of_ble_eq_true rfl⟩ (fun r_9 u_10 H locs w_11 hP hD hK1 hS => ?_)
          have hP : va_P D vwCl [(x, .inr (11, [.ref mo, .ref sm, .ref sc, .ref fo, .ref sf, .ref bu, .ref po, .ref te, .ref pa, .ref rw, .ref tr, .ref cl, .ref pt, .ref ru, .ref de, .int 0, .int 0])), (mt, .inl (kmt, 4, .inl (fun _ => 0))), (mv, .inl (kmv, 18, .inl (fun _ => 0))), (mo, .inr (3, [.ref mt, .ref mv, .int 1]))] H := hP
          have hD : va_D A [(x, .inr (11, [.ref mo, .ref sm, .ref sc, .ref fo, .ref sf, .ref bu, .ref po, .ref te, .ref pa, .ref rw, .ref tr, .ref cl, .ref pt, .ref ru, .ref de, .int 0, .int 0])), (mt, .inl (kmt, 4, .inl (fun _ => 0))), (mv, .inl (kmv, 18, .inl (fun _ => 0))), (mo, .inr (3, [.ref mt, .ref mv, .int 1]))] := hD
          have w_11 : (r_9 = 1 ∧ (0 ≤ b ∧ b < 1)) ∨ (r_9 = 0 ∧ ¬ (0 ≤ b ∧ b < 1)) := w_11
          rcases w_11 with ⟨rfl, b_11⟩ | ⟨rfl, b_11⟩
          · refine lv_if_ne (tgt := 31) hx hb dX11_setTransition_26 (by decide) (fun c_12 => ?_) (fun c_12 => ?_)
            · refine lv_aload_n hx hb dX11_setTransition_31 rfl (lv_at hl 0 rfl) ?_
              refine va_get (D := D) (ci := 11) (v := .ref mo) (C := RX11) (T := TX11) (N := 17) hx hb hts hiX11 hown hK hP 0 rfl rfl 0 (by decide) (hts (.fieldLink RX11 12 "DynamicLogicProver" "model" "LDynamicLogicProver$Model;") (mo_X11_setTransition 3 rfl)) (fun _ h9 => h9) rfl dX11_setTransition_32 ?_
              refine lv_iload_n hx hb dX11_setTransition_35 rfl (lv_at hl 1 rfl) ?_
              refine lv_iload_n hx hb dX11_setTransition_36 rfl (lv_at hl 2 rfl) ?_
              refine kc_Vi (As := [.int g, .int a]) (rest := []) (wr := [(x, .inr (11, [.ref mo, .ref sm, .ref sc, .ref fo, .ref sf, .ref bu, .ref po, .ref te, .ref pa, .ref rw, .ref tr, .ref cl, .ref pt, .ref ru, .ref de, .int 0, .int 0])), (mt, .inl (kmt, 4, .inl (fun _ => 0)))]) ⟨hx, hb, hml, hown, hts⟩ (ct_X3_moves l D mo mt mv kmv (fun _ => 0) 1 g a _ ) (cwV 2 hts (kg_V (mo_X11_setTransition 8 rfl) (mo_X11_setTransition 9 rfl) (mo_X11_setTransition 10 rfl) (mo_X11_setTransition 7 rfl) (goodIn_sub mb_X11_setTransition_2 gw_X3_moves)) rfl rfl rfl ⟨rfl, hd_X3_moves⟩ ⟨Nat.le_of_ble_eq_true rfl, Nat.le_of_ble_eq_true rfl⟩) (RX3, TX3, 3) 3 3 rfl rfl rfl hK hN hP hD hS hA [3, 2] [0, 1] [1] rfl rfl (by decide) (by decide) (by decide) rfl rfl hl.1 rfl (Nat.le_of_ble_eq_true rfl) dX11_setTransition_37 ⟨Nat.le_of_ble_eq_true rfl, Nat.le_of_ble_eq_true rfl⟩ (fun r_13 u_14 H locs w_15 hP hD hK1 hS => ?_)
              have hP : va_P D vwCl [(x, .inr (11, [.ref mo, .ref sm, .ref sc, .ref fo, .ref sf, .ref bu, .ref po, .ref te, .ref pa, .ref rw, .ref tr, .ref cl, .ref pt, .ref ru, .ref de, .int 0, .int 0])), (mt, .inl (kmt, 4, .inl (fun _ => 0))), (mo, .inr (3, [.ref mt, .ref mv, .int 1])), (mv, .inl (kmv, 18, .inl (fun _ => 0)))] H := hP
              have hD : va_D A [(x, .inr (11, [.ref mo, .ref sm, .ref sc, .ref fo, .ref sf, .ref bu, .ref po, .ref te, .ref pa, .ref rw, .ref tr, .ref cl, .ref pt, .ref ru, .ref de, .int 0, .int 0])), (mt, .inl (kmt, 4, .inl (fun _ => 0))), (mo, .inr (3, [.ref mt, .ref mv, .int 1])), (mv, .inl (kmv, 18, .inl (fun _ => 0)))] := hD
              have w_15 : r_13 = at_v (fun _ => 0) 18 (g * 6 + a) := w_15
              obtain rfl : r_13 = 0 := w_15.trans (at_v0 _ _)
              refine lv_iload_n hx hb dX11_setTransition_40 rfl (lv_at hl 3 rfl) ?_
              refine lv_ishr hx hb dX11_setTransition_41 ?_
              refine lv_topi (fun x_16 ex_16 => ?_)
              obtain rfl : x_16 = 0 := ex_16.trans (z_shr _)
              refine lv_iconst (v := 1) hx hb dX11_setTransition_42 (by decide) ?_
              refine lv_iand hx hb dX11_setTransition_43 ?_
              refine lv_topi (fun x_17 ex_17 => ?_)
              obtain rfl : x_17 = 0 := ex_17.trans (by decide)
              refine lv_istore (lv' := [(5, .int 0), (0, .ref x), (1, .int g), (2, .int a), (3, .int b), (4, .int k)]) hx hb dX11_setTransition_44 hl (by decide) rfl (fun ls hl => ?_)
              refine lv_aload_n hx hb dX11_setTransition_46 rfl (lv_at hl 1 rfl) ?_
              refine va_get (D := D) (ci := 11) (v := .ref mo) (C := RX11) (T := TX11) (N := 17) hx hb hts hiX11 hown hK hP 0 rfl rfl 0 (by decide) (hts (.fieldLink RX11 12 "DynamicLogicProver" "model" "LDynamicLogicProver$Model;") (mo_X11_setTransition 3 rfl)) (fun _ h9 => h9) rfl dX11_setTransition_47 ?_
              refine lv_iload_n hx hb dX11_setTransition_50 rfl (lv_at hl 2 rfl) ?_
              refine lv_iload_n hx hb dX11_setTransition_51 rfl (lv_at hl 3 rfl) ?_
              refine lv_iload_n hx hb dX11_setTransition_52 rfl (lv_at hl 4 rfl) ?_
              refine lv_iload hx hb dX11_setTransition_53 (lv_at hl 5 rfl) ?_
              refine kc_Vv (As := [.int g, .int a, .int b, .int k]) (rest := []) (wr := [(x, .inr (11, [.ref mo, .ref sm, .ref sc, .ref fo, .ref sf, .ref bu, .ref po, .ref te, .ref pa, .ref rw, .ref tr, .ref cl, .ref pt, .ref ru, .ref de, .int 0, .int 0])), (mt, .inl (kmt, 4, .inl (fun _ => 0)))]) ⟨hx, hb, hml, hown, hts⟩ (ct_X3_putMove l D mo mt mv kmv (fun _ => 0) 1 g a b k _ ) (cwV 4 hts (kg_V (mo_X11_setTransition 11 rfl) (mo_X11_setTransition 12 rfl) (mo_X11_setTransition 13 rfl) (mo_X11_setTransition 7 rfl) (goodIn_sub mb_X11_setTransition_3 gw_X3_putMove)) rfl rfl rfl ⟨rfl, hd_X3_putMove⟩ ⟨Nat.le_of_ble_eq_true rfl, Nat.le_of_ble_eq_true rfl⟩) (RX3, TX3, 3) 3 2 rfl rfl rfl hK hN hP hD hS hA [2, 3] [0, 1] [1] rfl rfl (by decide) (by decide) (by decide) rfl rfl hl.1 rfl (Nat.le_of_ble_eq_true rfl) dX11_setTransition_55 ⟨Nat.le_of_ble_eq_true rfl, Nat.le_of_ble_eq_true rfl⟩ (fun u_19 H locs w_20 hP hD hK1 hS => ?_)
              obtain ⟨o_21, rfl⟩ : ∃ z, z = u_19 := ⟨_, rfl⟩
              have hP : va_P D vwCl [(x, .inr (11, [.ref mo, .ref sm, .ref sc, .ref fo, .ref sf, .ref bu, .ref po, .ref te, .ref pa, .ref rw, .ref tr, .ref cl, .ref pt, .ref ru, .ref de, .int 0, .int 0])), (mt, .inl (kmt, 4, .inl (fun _ => 0))), (mo, .inr (3, [.ref mt, .ref mv, .int 1])), (mv, .inl (kmv, 18, .inl o_21))] H := hP
              have hD : va_D A [(x, .inr (11, [.ref mo, .ref sm, .ref sc, .ref fo, .ref sf, .ref bu, .ref po, .ref te, .ref pa, .ref rw, .ref tr, .ref cl, .ref pt, .ref ru, .ref de, .int 0, .int 0])), (mt, .inl (kmt, 4, .inl (fun _ => 0))), (mo, .inr (3, [.ref mt, .ref mv, .int 1])), (mv, .inl (kmv, 18, .inl o_21))] := hD
              refine lv_iload hx hb dX11_setTransition_58 (lv_at hl 0 rfl) ?_
              have hP9 := hP.sub (ws' := []) [] rfl
              have hD9 := hD.sub (ws' := []) [] (by decide) rfl
              have hK9 := hK.sub (tys' := []) [] rfl
              exact W.iret (v := 0) hx hb hr (fun tZ htZ hW => ⟨⟨0, (), rfl, (by unfold an_setTransition; first | rfl | ((repeat' split) <;> first | rfl | (exfalso; (try simp only [fa_lt, fa_le, fa_eq, ti_0, ti_1, ti_2, ti_3, ti_4, ti_5, ti_6, ti_8, ti_9, ti_10, ti_12, ti_18, ti_59, ti_60, ti_100, ti_127, ti_m1, ti_m2, ti_m3, ti_m4, ti_m5, ti_m10, ti_m11, ti_m12, ti_m13, ti_m14] at b_3); (try simp only [fa_lt, fa_le, fa_eq, ti_0, ti_1, ti_2, ti_3, ti_4, ti_5, ti_6, ti_8, ti_9, ti_10, ti_12, ti_18, ti_59, ti_60, ti_100, ti_127, ti_m1, ti_m2, ti_m3, ti_m4, ti_m5, ti_m10, ti_m11, ti_m12, ti_m13, ti_m14] at c_4); (try simp only [fa_lt, fa_le, fa_eq, ti_0, ti_1, ti_2, ti_3, ti_4, ti_5, ti_6, ti_8, ti_9, ti_10, ti_12, ti_18, ti_59, ti_60, ti_100, ti_127, ti_m1, ti_m2, ti_m3, ti_m4, ti_m5, ti_m10, ti_m11, ti_m12, ti_m13, ti_m14] at b_7); (try simp only [fa_lt, fa_le, fa_eq, ti_0, ti_1, ti_2, ti_3, ti_4, ti_5, ti_6, ti_8, ti_9, ti_10, ti_12, ti_18, ti_59, ti_60, ti_100, ti_127, ti_m1, ti_m2, ti_m3, ti_m4, ti_m5, ti_m10, ti_m11, ti_m12, ti_m13, ti_m14] at c_8); (try simp only [fa_lt, fa_le, fa_eq, ti_0, ti_1, ti_2, ti_3, ti_4, ti_5, ti_6, ti_8, ti_9, ti_10, ti_12, ti_18, ti_59, ti_60, ti_100, ti_127, ti_m1, ti_m2, ti_m3, ti_m4, ti_m5, ti_m10, ti_m11, ti_m12, ti_m13, ti_m14] at b_11); (try simp only [fa_lt, fa_le, fa_eq, ti_0, ti_1, ti_2, ti_3, ti_4, ti_5, ti_6, ti_8, ti_9, ti_10, ti_12, ti_18, ti_59, ti_60, ti_100, ti_127, ti_m1, ti_m2, ti_m3, ti_m4, ti_m5, ti_m10, ti_m11, ti_m12, ti_m13, ti_m14] at c_12); (try simp only [fa_lt, fa_le, fa_eq, ti_0, ti_1, ti_2, ti_3, ti_4, ti_5, ti_6, ti_8, ti_9, ti_10, ti_12, ti_18, ti_59, ti_60, ti_100, ti_127, ti_m1, ti_m2, ti_m3, ti_m4, ti_m5, ti_m10, ti_m11, ti_m12, ti_m13, ti_m14] at w_15); omega))), by rw [htZ]; exact hP9, va_K.moved hW.alike hK9, hD9⟩, hS.F htZ⟩) hS.2.2 dX11_setTransition_60
            · exact absurd c_12 (by decide)
          · refine lv_if_ne (tgt := 31) hx hb dX11_setTransition_26 (by decide) (fun c_22 => ?_) (fun c_22 => ?_)
            · exact absurd c_22 (by decide)
            · refine lv_iconst (v := (-1)) hx hb dX11_setTransition_29 (by decide) ?_
              have hP9 := hP.sub (ws' := []) [] rfl
              have hD9 := hD.sub (ws' := []) [] (by decide) rfl
              have hK9 := hK.sub (tys' := []) [] rfl
              exact W.iret (v := (-1)) hx hb hr (fun tZ htZ hW => ⟨⟨(-1), (), rfl, (by unfold an_setTransition; first | rfl | ((repeat' split) <;> first | rfl | (exfalso; (try simp only [fa_lt, fa_le, fa_eq, ti_0, ti_1, ti_2, ti_3, ti_4, ti_5, ti_6, ti_8, ti_9, ti_10, ti_12, ti_18, ti_59, ti_60, ti_100, ti_127, ti_m1, ti_m2, ti_m3, ti_m4, ti_m5, ti_m10, ti_m11, ti_m12, ti_m13, ti_m14] at b_3); (try simp only [fa_lt, fa_le, fa_eq, ti_0, ti_1, ti_2, ti_3, ti_4, ti_5, ti_6, ti_8, ti_9, ti_10, ti_12, ti_18, ti_59, ti_60, ti_100, ti_127, ti_m1, ti_m2, ti_m3, ti_m4, ti_m5, ti_m10, ti_m11, ti_m12, ti_m13, ti_m14] at c_4); (try simp only [fa_lt, fa_le, fa_eq, ti_0, ti_1, ti_2, ti_3, ti_4, ti_5, ti_6, ti_8, ti_9, ti_10, ti_12, ti_18, ti_59, ti_60, ti_100, ti_127, ti_m1, ti_m2, ti_m3, ti_m4, ti_m5, ti_m10, ti_m11, ti_m12, ti_m13, ti_m14] at b_7); (try simp only [fa_lt, fa_le, fa_eq, ti_0, ti_1, ti_2, ti_3, ti_4, ti_5, ti_6, ti_8, ti_9, ti_10, ti_12, ti_18, ti_59, ti_60, ti_100, ti_127, ti_m1, ti_m2, ti_m3, ti_m4, ti_m5, ti_m10, ti_m11, ti_m12, ti_m13, ti_m14] at c_8); (try simp only [fa_lt, fa_le, fa_eq, ti_0, ti_1, ti_2, ti_3, ti_4, ti_5, ti_6, ti_8, ti_9, ti_10, ti_12, ti_18, ti_59, ti_60, ti_100, ti_127, ti_m1, ti_m2, ti_m3, ti_m4, ti_m5, ti_m10, ti_m11, ti_m12, ti_m13, ti_m14] at b_11); (try simp only [fa_lt, fa_le, fa_eq, ti_0, ti_1, ti_2, ti_3, ti_4, ti_5, ti_6, ti_8, ti_9, ti_10, ti_12, ti_18, ti_59, ti_60, ti_100, ti_127, ti_m1, ti_m2, ti_m3, ti_m4, ti_m5, ti_m10, ti_m11, ti_m12, ti_m13, ti_m14] at c_22); omega))), by rw [htZ]; exact hP9, va_K.moved hW.alike hK9, hD9⟩, hS.F htZ⟩) hS.2.2 dX11_setTransition_30
      · refine lv_if_eq (tgt := 29) hx hb dX11_setTransition_15 (by decide) (fun c_23 => ?_) (fun c_23 => ?_)
        · refine lv_iconst (v := (-1)) hx hb dX11_setTransition_29 (by decide) ?_
          have hP9 := hP.sub (ws' := []) [] rfl
          have hD9 := hD.sub (ws' := []) [] (by decide) rfl
          have hK9 := hK.sub (tys' := []) [] rfl
          exact W.iret (v := (-1)) hx hb hr (fun tZ htZ hW => ⟨⟨(-1), (), rfl, (by unfold an_setTransition; first | rfl | ((repeat' split) <;> first | rfl | (exfalso; (try simp only [fa_lt, fa_le, fa_eq, ti_0, ti_1, ti_2, ti_3, ti_4, ti_5, ti_6, ti_8, ti_9, ti_10, ti_12, ti_18, ti_59, ti_60, ti_100, ti_127, ti_m1, ti_m2, ti_m3, ti_m4, ti_m5, ti_m10, ti_m11, ti_m12, ti_m13, ti_m14] at b_3); (try simp only [fa_lt, fa_le, fa_eq, ti_0, ti_1, ti_2, ti_3, ti_4, ti_5, ti_6, ti_8, ti_9, ti_10, ti_12, ti_18, ti_59, ti_60, ti_100, ti_127, ti_m1, ti_m2, ti_m3, ti_m4, ti_m5, ti_m10, ti_m11, ti_m12, ti_m13, ti_m14] at c_4); (try simp only [fa_lt, fa_le, fa_eq, ti_0, ti_1, ti_2, ti_3, ti_4, ti_5, ti_6, ti_8, ti_9, ti_10, ti_12, ti_18, ti_59, ti_60, ti_100, ti_127, ti_m1, ti_m2, ti_m3, ti_m4, ti_m5, ti_m10, ti_m11, ti_m12, ti_m13, ti_m14] at b_7); (try simp only [fa_lt, fa_le, fa_eq, ti_0, ti_1, ti_2, ti_3, ti_4, ti_5, ti_6, ti_8, ti_9, ti_10, ti_12, ti_18, ti_59, ti_60, ti_100, ti_127, ti_m1, ti_m2, ti_m3, ti_m4, ti_m5, ti_m10, ti_m11, ti_m12, ti_m13, ti_m14] at c_23); omega))), by rw [htZ]; exact hP9, va_K.moved hW.alike hK9, hD9⟩, hS.F htZ⟩) hS.2.2 dX11_setTransition_30
        · exact absurd c_23 (by decide)
  · refine lv_if_eq (tgt := 29) hx hb dX11_setTransition_4 (by decide) (fun c_24 => ?_) (fun c_24 => ?_)
    · refine lv_iconst (v := (-1)) hx hb dX11_setTransition_29 (by decide) ?_
      have hP9 := hP.sub (ws' := []) [] rfl
      have hD9 := hD.sub (ws' := []) [] (by decide) rfl
      have hK9 := hK.sub (tys' := []) [] rfl
      exact W.iret (v := (-1)) hx hb hr (fun tZ htZ hW => ⟨⟨(-1), (), rfl, (by unfold an_setTransition; first | rfl | ((repeat' split) <;> first | rfl | (exfalso; (try simp only [fa_lt, fa_le, fa_eq, ti_0, ti_1, ti_2, ti_3, ti_4, ti_5, ti_6, ti_8, ti_9, ti_10, ti_12, ti_18, ti_59, ti_60, ti_100, ti_127, ti_m1, ti_m2, ti_m3, ti_m4, ti_m5, ti_m10, ti_m11, ti_m12, ti_m13, ti_m14] at b_3); (try simp only [fa_lt, fa_le, fa_eq, ti_0, ti_1, ti_2, ti_3, ti_4, ti_5, ti_6, ti_8, ti_9, ti_10, ti_12, ti_18, ti_59, ti_60, ti_100, ti_127, ti_m1, ti_m2, ti_m3, ti_m4, ti_m5, ti_m10, ti_m11, ti_m12, ti_m13, ti_m14] at c_24); omega))), by rw [htZ]; exact hP9, va_K.moved hW.alike hK9, hD9⟩, hS.F htZ⟩) hS.2.2 dX11_setTransition_30
    · exact absurd c_24 (by decide)
theorem dX11_letters_0 : decode cX11_letters 0 = .ok (.aload_n 0, 1) := by decide +kernel
theorem dX11_letters_1 : decode cX11_letters 1 = .ok (.getfield 12, 3) := by decide +kernel
theorem dX11_letters_4 : decode cX11_letters 4 = .ok (.iload_n 1, 1) := by decide +kernel
theorem dX11_letters_5 : decode cX11_letters 5 = .ok (.invokevirtual 125, 3) := by decide +kernel
theorem dX11_letters_8 : decode cX11_letters 8 = .ok (.ifCond .eq 14, 3) := by decide +kernel
theorem dX11_letters_11 : decode cX11_letters 11 = .ok (.aload_n 0, 1) := by decide +kernel
theorem dX11_letters_12 : decode cX11_letters 12 = .ok (.getfield 12, 3) := by decide +kernel
theorem dX11_letters_15 : decode cX11_letters 15 = .ok (.iload_n 1, 1) := by decide +kernel
theorem dX11_letters_16 : decode cX11_letters 16 = .ok (.invokevirtual 148, 3) := by decide +kernel
theorem dX11_letters_19 : decode cX11_letters 19 = .ok (.goto 4, 3) := by decide +kernel
theorem dX11_letters_22 : decode cX11_letters 22 = .ok (.iconst (-1), 1) := by decide +kernel
theorem dX11_letters_23 : decode cX11_letters 23 = .ok (.ireturn, 1) := by decide +kernel
def wo_X11_letters : List Cond := [.fieldLink RX11 12 "DynamicLogicProver" "model" "LDynamicLogicProver$Model;", .methodLink RX11 125 yX3_has, .instanceMethod yX3_has, .selects RX3 yX3_has yX3_has, .initialized RX3, .methodLink RX11 148 yX3_lettersAt, .instanceMethod yX3_lettersAt, .selects RX3 yX3_lettersAt yX3_lettersAt]
def wd_X11_letters : List Cond := .code yX11_letters cX11_letters 2 (some .int) :: (wo_X11_letters ++ (wd_X3_has ++ (wd_X3_lettersAt0 ++ (wsX110 ++ ([] : List Cond)))))
theorem mo_X11_letters {w : Cond} (i : Nat) (h : wo_X11_letters[i]? = some w) : w ∈ wd_X11_letters := List.mem_cons_of_mem _ (List.mem_append_left _ (List.mem_of_getElem? h))
theorem mb_X11_letters_0 : ∀ w ∈ wd_X3_has, w ∈ wd_X11_letters := fun w h => List.mem_cons_of_mem _ (List.mem_append_right _ (List.mem_append_left _ h))
theorem mb_X11_letters_1 : ∀ w ∈ wd_X3_lettersAt0, w ∈ wd_X11_letters := fun w h => List.mem_cons_of_mem _ (List.mem_append_right _ (List.mem_append_right _ (List.mem_append_left _ h)))
theorem mb_X11_letters_2 : ∀ w ∈ wsX110, w ∈ wd_X11_letters := fun w h => List.mem_cons_of_mem _ (List.mem_append_right _ (List.mem_append_right _ (List.mem_append_right _ (List.mem_append_left _ h))))
theorem hd_X11_letters : yX11_letters.cls ≠ "java/lang/invoke/MethodHandle" ∧ yX11_letters.cls ≠ "java/lang/invoke/VarHandle" ∧ (parseMethodDescriptor yX11_letters.desc).map (fun d => d.parameters.length) = some 1 := by decide +kernel
set_option maxRecDepth 20000 in
theorem gw_X11_letters : wd_X11_letters.all goodWord = true := by decide +kernel
abbrev qc_X11_letters (D : va_G) (x : Nat) (mo : Nat) (sm : Nat) (sc : Nat) (fo : Nat) (sf : Nat) (bu : Nat) (po : Nat) (te : Nat) (pa : Nat) (rw : Nat) (tr : Nat) (cl : Nat) (pt : Nat) (ru : Nat) (de : Nat) (mt : Nat) (mv : Nat) (kmt : ClassId) (kmv : ClassId) (w : Int32) (A : Nat → Prop) : Array Value → State → Outcome → State → Prop := va_Qi (fun (r : Int32) (uZ : Unit) => r = an_letters w) (fun uZ tZ => kc_pos D A [] [] tZ) A
set_option maxHeartbeats 4000000 in
set_option maxRecDepth 100000 in
theorem ct_X11_letters (l : Launch) (D : va_G) (x : Nat) (mo : Nat) (sm : Nat) (sc : Nat) (fo : Nat) (sf : Nat) (bu : Nat) (po : Nat) (te : Nat) (pa : Nat) (rw : Nat) (tr : Nat) (cl : Nat) (pt : Nat) (ru : Nat) (de : Nat) (mt : Nat) (mv : Nat) (kmt : ClassId) (kmv : ClassId) (w : Int32) (sz : Nat)  : Met l yX11_letters wd_X11_letters ({ frames := 2, cells := 0, slots := 0, locals := 44 }) (va_Pc [.ref x, .int w] (kc_pre D [(kmt, .int), (kmv, .int)] [(x, .inr (11, [.ref mo, .ref sm, .ref sc, .ref fo, .ref sf, .ref bu, .ref po, .ref te, .ref pa, .ref rw, .ref tr, .ref cl, .ref pt, .ref ru, .ref de, .int 0, .int 0])), (mo, .inr (3, [.ref mt, .ref mv, .int 1])), (mt, .inl (kmt, 4, .inl (fun _ => 0))), (mv, .inl (kmv, 18, .inl (fun _ => 0)))] sz)) (qc_X11_letters D x mo sm sc fo sf bu po te pa rw tr cl pt ru de mt mv kmt kmv w (va_A [(x, .inr (11, [.ref mo, .ref sm, .ref sc, .ref fo, .ref sf, .ref bu, .ref po, .ref te, .ref pa, .ref rw, .ref tr, .ref cl, .ref pt, .ref ru, .ref de, .int 0, .int 0])), (mo, .inr (3, [.ref mt, .ref mv, .int 1])), (mt, .inl (kmt, 4, .inl (fun _ => 0))), (mv, .inl (kmv, 18, .inl (fun _ => 0)))] sz)) 0 0 (va_A [(x, .inr (11, [.ref mo, .ref sm, .ref sc, .ref fo, .ref sf, .ref bu, .ref po, .ref te, .ref pa, .ref rw, .ref tr, .ref cl, .ref pt, .ref ru, .ref de, .int 0, .int 0])), (mo, .inr (3, [.ref mt, .ref mv, .int 1])), (mt, .inl (kmt, 4, .inl (fun _ => 0))), (mv, .inl (kmv, 18, .inl (fun _ => 0)))] sz) := by
  refine Met.ofW (cc := cX11_letters) (maxL := 2) (ret := (some .int)) (by decide) rfl ?_
  intro p e s m args below meth c s₁ B hml hv
  obtain ⟨rfl, hsz, hP, hK, hN, hD0⟩ := hv
  have hx := B.exec
  have hb := B.bytes
  have hr := B.returns
  have hts := atoms_spec (ws := wd_X11_letters) B.pre
  have hown : s.vm.findClass RX11 = some m.cls := findClass_of_methodNamed B.named
  have hlocks := B.notSynchronized
  subst hsz
  have hD := hD0.self (sz := s.heap.size)
  generalize hAe : va_A [(x, .inr (11, [.ref mo, .ref sm, .ref sc, .ref fo, .ref sf, .ref bu, .ref po, .ref te, .ref pa, .ref rw, .ref tr, .ref cl, .ref pt, .ref ru, .ref de, .int 0, .int 0])), (mo, .inr (3, [.ref mt, .ref mv, .int 1])), (mt, .inl (kmt, 4, .inl (fun _ => 0))), (mv, .inl (kmv, 18, .inl (fun _ => 0)))] s.heap.size = A at hD ⊢
  have hA : ∀ q : Nat, s.heap.size ≤ q → A q := fun q h => by rw [← hAe]; exact Or.inr h
  have hS : va_S A s.heap s.heap [] := va_S.rf
  have hiX11 : ∀ w ∈ wsX110, w ∈ wd_X11_letters := mb_X11_letters_2
  have hl := lv_entry ([.ref x, .int w]) (n := 2) (Nat.le_of_ble_eq_true rfl)
  rw [lg_entry_eq]
  generalize (lg_sl ([.ref x, .int w]) ++ List.replicate (2 - (lg_sl ([.ref x, .int w])).length) Slot.unset).toArray = ls at hl ⊢
  have hl : lv_has ls 2 [(0, .ref x), (1, .int w)] := hl
  refine lv_aload_n hx hb dX11_letters_0 rfl (lv_at hl 0 rfl) ?_
  refine va_get (D := D) (ci := 11) (v := .ref mo) (C := RX11) (T := TX11) (N := 17) hx hb hts hiX11 hown hK hP 0 rfl rfl 0 (by decide) (hts (.fieldLink RX11 12 "DynamicLogicProver" "model" "LDynamicLogicProver$Model;") (mo_X11_letters 0 rfl)) (fun _ h9 => h9) rfl dX11_letters_1 ?_
  refine lv_iload_n hx hb dX11_letters_4 rfl (lv_at hl 1 rfl) ?_
  refine kc_Vi (As := [.int w]) (rest := []) (wr := [(x, .inr (11, [.ref mo, .ref sm, .ref sc, .ref fo, .ref sf, .ref bu, .ref po, .ref te, .ref pa, .ref rw, .ref tr, .ref cl, .ref pt, .ref ru, .ref de, .int 0, .int 0])), (mt, .inl (kmt, 4, .inl (fun _ => 0))), (mv, .inl (kmv, 18, .inl (fun _ => 0)))]) ⟨hx, hb, hml, hown, hts⟩ (ct_X3_has l D mo mt mv 1 w _ ) (cwV 1 hts (kg_V (mo_X11_letters 1 rfl) (mo_X11_letters 2 rfl) (mo_X11_letters 3 rfl) (mo_X11_letters 4 rfl) (goodIn_sub mb_X11_letters_0 gw_X3_has)) rfl rfl rfl ⟨rfl, hd_X3_has⟩ ⟨Nat.le_of_ble_eq_true rfl, Nat.le_of_ble_eq_true rfl⟩) (RX3, TX3, 3) 3 1 rfl rfl rfl hK hN hP hD hS hA [1] [0, 2, 3] [] rfl rfl (by decide) (by decide) (by decide) rfl rfl hl.1 rfl (Nat.le_of_ble_eq_true rfl) dX11_letters_5 ⟨Nat.le_of_ble_eq_true rfl, Nat.le_of_ble_eq_true rfl⟩ (fun r_1 u_2 H locs w_3 hP hD hK1 hS => ?_)
  have hP : va_P D vwCl [(x, .inr (11, [.ref mo, .ref sm, .ref sc, .ref fo, .ref sf, .ref bu, .ref po, .ref te, .ref pa, .ref rw, .ref tr, .ref cl, .ref pt, .ref ru, .ref de, .int 0, .int 0])), (mt, .inl (kmt, 4, .inl (fun _ => 0))), (mv, .inl (kmv, 18, .inl (fun _ => 0))), (mo, .inr (3, [.ref mt, .ref mv, .int 1]))] H := hP
  have hD : va_D A [(x, .inr (11, [.ref mo, .ref sm, .ref sc, .ref fo, .ref sf, .ref bu, .ref po, .ref te, .ref pa, .ref rw, .ref tr, .ref cl, .ref pt, .ref ru, .ref de, .int 0, .int 0])), (mt, .inl (kmt, 4, .inl (fun _ => 0))), (mv, .inl (kmv, 18, .inl (fun _ => 0))), (mo, .inr (3, [.ref mt, .ref mv, .int 1]))] := hD
  have w_3 : (r_1 = 1 ∧ (0 ≤ w ∧ w < 1)) ∨ (r_1 = 0 ∧ ¬ (0 ≤ w ∧ w < 1)) := w_3
  rcases w_3 with ⟨rfl, b_3⟩ | ⟨rfl, b_3⟩
  · refine lv_if_eq (tgt := 22) hx hb dX11_letters_8 (by decide) (fun c_4 => ?_) (fun c_4 => ?_)
    · exact absurd c_4 (by decide)
    · refine lv_aload_n hx hb dX11_letters_11 rfl (lv_at hl 0 rfl) ?_
      refine va_get (D := D) (ci := 11) (v := .ref mo) (C := RX11) (T := TX11) (N := 17) hx hb hts hiX11 hown hK hP 0 rfl rfl 0 (by decide) (hts (.fieldLink RX11 12 "DynamicLogicProver" "model" "LDynamicLogicProver$Model;") (mo_X11_letters 0 rfl)) (fun _ h9 => h9) rfl dX11_letters_12 ?_
      refine lv_iload_n hx hb dX11_letters_15 rfl (lv_at hl 1 rfl) ?_
      refine kc_Vi (As := [.int w]) (rest := []) (wr := [(x, .inr (11, [.ref mo, .ref sm, .ref sc, .ref fo, .ref sf, .ref bu, .ref po, .ref te, .ref pa, .ref rw, .ref tr, .ref cl, .ref pt, .ref ru, .ref de, .int 0, .int 0])), (mv, .inl (kmv, 18, .inl (fun _ => 0)))]) ⟨hx, hb, hml, hown, hts⟩ (ct_X3_lettersAt0 l D mo mt mv kmt 1 w _ ) (cwV 1 hts (kg_V (mo_X11_letters 5 rfl) (mo_X11_letters 6 rfl) (mo_X11_letters 7 rfl) (mo_X11_letters 4 rfl) (goodIn_sub mb_X11_letters_1 gw_X3_lettersAt0)) rfl rfl rfl ⟨rfl, hd_X3_lettersAt⟩ ⟨Nat.le_of_ble_eq_true rfl, Nat.le_of_ble_eq_true rfl⟩) (RX3, TX3, 3) 3 3 rfl rfl rfl hK hN hP hD hS hA [3, 1] [0, 2] [0] rfl rfl (by decide) (by decide) (by decide) rfl rfl hl.1 rfl (Nat.le_of_ble_eq_true rfl) dX11_letters_16 ⟨Nat.le_of_ble_eq_true rfl, Nat.le_of_ble_eq_true rfl⟩ (fun r_5 u_6 H locs w_7 hP hD hK1 hS => ?_)
      have hP : va_P D vwCl [(x, .inr (11, [.ref mo, .ref sm, .ref sc, .ref fo, .ref sf, .ref bu, .ref po, .ref te, .ref pa, .ref rw, .ref tr, .ref cl, .ref pt, .ref ru, .ref de, .int 0, .int 0])), (mv, .inl (kmv, 18, .inl (fun _ => 0))), (mo, .inr (3, [.ref mt, .ref mv, .int 1])), (mt, .inl (kmt, 4, .inl (fun _ => 0)))] H := hP
      have hD : va_D A [(x, .inr (11, [.ref mo, .ref sm, .ref sc, .ref fo, .ref sf, .ref bu, .ref po, .ref te, .ref pa, .ref rw, .ref tr, .ref cl, .ref pt, .ref ru, .ref de, .int 0, .int 0])), (mv, .inl (kmv, 18, .inl (fun _ => 0))), (mo, .inr (3, [.ref mt, .ref mv, .int 1])), (mt, .inl (kmt, 4, .inl (fun _ => 0)))] := hD
      have w_7 : r_5 = 0 := w_7
      subst w_7
      refine lv_goto (tgt := 23) hx hb dX11_letters_19 (by decide) ?_
      have hP9 := hP.sub (ws' := []) [] rfl
      have hD9 := hD.sub (ws' := []) [] (by decide) rfl
      have hK9 := hK.sub (tys' := []) [] rfl
      exact W.iret (v := 0) hx hb hr (fun tZ htZ hW => ⟨⟨0, (), rfl, (by unfold an_letters; first | rfl | ((repeat' split) <;> first | rfl | (exfalso; (try simp only [fa_lt, fa_le, fa_eq, ti_0, ti_1, ti_2, ti_3, ti_4, ti_5, ti_6, ti_8, ti_9, ti_10, ti_12, ti_18, ti_59, ti_60, ti_100, ti_127, ti_m1, ti_m2, ti_m3, ti_m4, ti_m5, ti_m10, ti_m11, ti_m12, ti_m13, ti_m14] at b_3); (try simp only [fa_lt, fa_le, fa_eq, ti_0, ti_1, ti_2, ti_3, ti_4, ti_5, ti_6, ti_8, ti_9, ti_10, ti_12, ti_18, ti_59, ti_60, ti_100, ti_127, ti_m1, ti_m2, ti_m3, ti_m4, ti_m5, ti_m10, ti_m11, ti_m12, ti_m13, ti_m14] at c_4); (try simp only [fa_lt, fa_le, fa_eq, ti_0, ti_1, ti_2, ti_3, ti_4, ti_5, ti_6, ti_8, ti_9, ti_10, ti_12, ti_18, ti_59, ti_60, ti_100, ti_127, ti_m1, ti_m2, ti_m3, ti_m4, ti_m5, ti_m10, ti_m11, ti_m12, ti_m13, ti_m14] at w_7); omega))), by rw [htZ]; exact hP9, va_K.moved hW.alike hK9, hD9⟩, hS.F htZ⟩) hS.2.2 dX11_letters_23
  · refine lv_if_eq (tgt := 22) hx hb dX11_letters_8 (by decide) (fun c_8 => ?_) (fun c_8 => ?_)
    · refine lv_iconst (v := (-1)) hx hb dX11_letters_22 (by decide) ?_
      have hP9 := hP.sub (ws' := []) [] rfl
      have hD9 := hD.sub (ws' := []) [] (by decide) rfl
      have hK9 := hK.sub (tys' := []) [] rfl
      exact W.iret (v := (-1)) hx hb hr (fun tZ htZ hW => ⟨⟨(-1), (), rfl, (by unfold an_letters; first | rfl | ((repeat' split) <;> first | rfl | (exfalso; (try simp only [fa_lt, fa_le, fa_eq, ti_0, ti_1, ti_2, ti_3, ti_4, ti_5, ti_6, ti_8, ti_9, ti_10, ti_12, ti_18, ti_59, ti_60, ti_100, ti_127, ti_m1, ti_m2, ti_m3, ti_m4, ti_m5, ti_m10, ti_m11, ti_m12, ti_m13, ti_m14] at b_3); (try simp only [fa_lt, fa_le, fa_eq, ti_0, ti_1, ti_2, ti_3, ti_4, ti_5, ti_6, ti_8, ti_9, ti_10, ti_12, ti_18, ti_59, ti_60, ti_100, ti_127, ti_m1, ti_m2, ti_m3, ti_m4, ti_m5, ti_m10, ti_m11, ti_m12, ti_m13, ti_m14] at c_8); omega))), by rw [htZ]; exact hP9, va_K.moved hW.alike hK9, hD9⟩, hS.F htZ⟩) hS.2.2 dX11_letters_23
    · exact absurd c_8 (by decide)
theorem dX11_successors_0 : decode cX11_successors 0 = .ok (.iload_n 1, 1) := by decide +kernel
theorem dX11_successors_1 : decode cX11_successors 1 = .ok (.invokestatic 137, 3) := by decide +kernel
theorem dX11_successors_4 : decode cX11_successors 4 = .ok (.ifCond .eq 26, 3) := by decide +kernel
theorem dX11_successors_7 : decode cX11_successors 7 = .ok (.aload_n 0, 1) := by decide +kernel
theorem dX11_successors_8 : decode cX11_successors 8 = .ok (.getfield 12, 3) := by decide +kernel
theorem dX11_successors_11 : decode cX11_successors 11 = .ok (.iload_n 2, 1) := by decide +kernel
theorem dX11_successors_12 : decode cX11_successors 12 = .ok (.invokevirtual 125, 3) := by decide +kernel
theorem dX11_successors_15 : decode cX11_successors 15 = .ok (.ifCond .eq 15, 3) := by decide +kernel
theorem dX11_successors_18 : decode cX11_successors 18 = .ok (.aload_n 0, 1) := by decide +kernel
theorem dX11_successors_19 : decode cX11_successors 19 = .ok (.getfield 12, 3) := by decide +kernel
theorem dX11_successors_22 : decode cX11_successors 22 = .ok (.iload_n 1, 1) := by decide +kernel
theorem dX11_successors_23 : decode cX11_successors 23 = .ok (.iload_n 2, 1) := by decide +kernel
theorem dX11_successors_24 : decode cX11_successors 24 = .ok (.invokevirtual 140, 3) := by decide +kernel
theorem dX11_successors_27 : decode cX11_successors 27 = .ok (.goto 4, 3) := by decide +kernel
theorem dX11_successors_30 : decode cX11_successors 30 = .ok (.iconst (-1), 1) := by decide +kernel
theorem dX11_successors_31 : decode cX11_successors 31 = .ok (.ireturn, 1) := by decide +kernel
def wo_X11_successors : List Cond := [.methodLink RX11 137 yX11_isProgram, .static yX11_isProgram, .initialized RX11, .fieldLink RX11 12 "DynamicLogicProver" "model" "LDynamicLogicProver$Model;", .methodLink RX11 125 yX3_has, .instanceMethod yX3_has, .selects RX3 yX3_has yX3_has, .initialized RX3, .methodLink RX11 140 yX3_moves, .instanceMethod yX3_moves, .selects RX3 yX3_moves yX3_moves]
def wd_X11_successors : List Cond := .code yX11_successors cX11_successors 3 (some .int) :: (wo_X11_successors ++ (wd_X11_isProgram ++ (wd_X3_has ++ (wd_X3_moves ++ (wsX110 ++ ([] : List Cond))))))
theorem mo_X11_successors {w : Cond} (i : Nat) (h : wo_X11_successors[i]? = some w) : w ∈ wd_X11_successors := List.mem_cons_of_mem _ (List.mem_append_left _ (List.mem_of_getElem? h))
theorem mb_X11_successors_0 : ∀ w ∈ wd_X11_isProgram, w ∈ wd_X11_successors := fun w h => List.mem_cons_of_mem _ (List.mem_append_right _ (List.mem_append_left _ h))
theorem mb_X11_successors_1 : ∀ w ∈ wd_X3_has, w ∈ wd_X11_successors := fun w h => List.mem_cons_of_mem _ (List.mem_append_right _ (List.mem_append_right _ (List.mem_append_left _ h)))
theorem mb_X11_successors_2 : ∀ w ∈ wd_X3_moves, w ∈ wd_X11_successors := fun w h => List.mem_cons_of_mem _ (List.mem_append_right _ (List.mem_append_right _ (List.mem_append_right _ (List.mem_append_left _ h))))
theorem mb_X11_successors_3 : ∀ w ∈ wsX110, w ∈ wd_X11_successors := fun w h => List.mem_cons_of_mem _ (List.mem_append_right _ (List.mem_append_right _ (List.mem_append_right _ (List.mem_append_right _ (List.mem_append_left _ h)))))
theorem hd_X11_successors : yX11_successors.cls ≠ "java/lang/invoke/MethodHandle" ∧ yX11_successors.cls ≠ "java/lang/invoke/VarHandle" ∧ (parseMethodDescriptor yX11_successors.desc).map (fun d => d.parameters.length) = some 2 := by decide +kernel
set_option maxRecDepth 20000 in
theorem gw_X11_successors : wd_X11_successors.all goodWord = true := by decide +kernel
abbrev qc_X11_successors (D : va_G) (x : Nat) (mo : Nat) (sm : Nat) (sc : Nat) (fo : Nat) (sf : Nat) (bu : Nat) (po : Nat) (te : Nat) (pa : Nat) (rw : Nat) (tr : Nat) (cl : Nat) (pt : Nat) (ru : Nat) (de : Nat) (mt : Nat) (mv : Nat) (kmt : ClassId) (kmv : ClassId) (g : Int32) (w : Int32) (A : Nat → Prop) : Array Value → State → Outcome → State → Prop := va_Qi (fun (r : Int32) (uZ : Unit) => r = an_successors g w) (fun uZ tZ => kc_pos D A [] [] tZ) A
set_option maxHeartbeats 4000000 in
set_option maxRecDepth 100000 in
theorem ct_X11_successors (l : Launch) (D : va_G) (x : Nat) (mo : Nat) (sm : Nat) (sc : Nat) (fo : Nat) (sf : Nat) (bu : Nat) (po : Nat) (te : Nat) (pa : Nat) (rw : Nat) (tr : Nat) (cl : Nat) (pt : Nat) (ru : Nat) (de : Nat) (mt : Nat) (mv : Nat) (kmt : ClassId) (kmv : ClassId) (g : Int32) (w : Int32) (sz : Nat)  : Met l yX11_successors wd_X11_successors ({ frames := 2, cells := 0, slots := 0, locals := 43 }) (va_Pc [.ref x, .int g, .int w] (kc_pre D [(kmt, .int), (kmv, .int)] [(x, .inr (11, [.ref mo, .ref sm, .ref sc, .ref fo, .ref sf, .ref bu, .ref po, .ref te, .ref pa, .ref rw, .ref tr, .ref cl, .ref pt, .ref ru, .ref de, .int 0, .int 0])), (mo, .inr (3, [.ref mt, .ref mv, .int 1])), (mt, .inl (kmt, 4, .inl (fun _ => 0))), (mv, .inl (kmv, 18, .inl (fun _ => 0)))] sz)) (qc_X11_successors D x mo sm sc fo sf bu po te pa rw tr cl pt ru de mt mv kmt kmv g w (va_A [(x, .inr (11, [.ref mo, .ref sm, .ref sc, .ref fo, .ref sf, .ref bu, .ref po, .ref te, .ref pa, .ref rw, .ref tr, .ref cl, .ref pt, .ref ru, .ref de, .int 0, .int 0])), (mo, .inr (3, [.ref mt, .ref mv, .int 1])), (mt, .inl (kmt, 4, .inl (fun _ => 0))), (mv, .inl (kmv, 18, .inl (fun _ => 0)))] sz)) 0 0 (va_A [(x, .inr (11, [.ref mo, .ref sm, .ref sc, .ref fo, .ref sf, .ref bu, .ref po, .ref te, .ref pa, .ref rw, .ref tr, .ref cl, .ref pt, .ref ru, .ref de, .int 0, .int 0])), (mo, .inr (3, [.ref mt, .ref mv, .int 1])), (mt, .inl (kmt, 4, .inl (fun _ => 0))), (mv, .inl (kmv, 18, .inl (fun _ => 0)))] sz) := by
  refine Met.ofW (cc := cX11_successors) (maxL := 3) (ret := (some .int)) (by decide) rfl ?_
  intro p e s m args below meth c s₁ B hml hv
  obtain ⟨rfl, hsz, hP, hK, hN, hD0⟩ := hv
  have hx := B.exec
  have hb := B.bytes
  have hr := B.returns
  have hts := atoms_spec (ws := wd_X11_successors) B.pre
  have hown : s.vm.findClass RX11 = some m.cls := findClass_of_methodNamed B.named
  have hlocks := B.notSynchronized
  subst hsz
  have hD := hD0.self (sz := s.heap.size)
  generalize hAe : va_A [(x, .inr (11, [.ref mo, .ref sm, .ref sc, .ref fo, .ref sf, .ref bu, .ref po, .ref te, .ref pa, .ref rw, .ref tr, .ref cl, .ref pt, .ref ru, .ref de, .int 0, .int 0])), (mo, .inr (3, [.ref mt, .ref mv, .int 1])), (mt, .inl (kmt, 4, .inl (fun _ => 0))), (mv, .inl (kmv, 18, .inl (fun _ => 0)))] s.heap.size = A at hD ⊢
  have hA : ∀ q : Nat, s.heap.size ≤ q → A q := fun q h => by rw [← hAe]; exact Or.inr h
  have hS : va_S A s.heap s.heap [] := va_S.rf
  have hiX11 : ∀ w ∈ wsX110, w ∈ wd_X11_successors := mb_X11_successors_3
  have hl := lv_entry ([.ref x, .int g, .int w]) (n := 3) (Nat.le_of_ble_eq_true rfl)
  rw [lg_entry_eq]
  generalize (lg_sl ([.ref x, .int g, .int w]) ++ List.replicate (3 - (lg_sl ([.ref x, .int g, .int w])).length) Slot.unset).toArray = ls at hl ⊢
  have hl : lv_has ls 3 [(0, .ref x), (1, .int g), (2, .int w)] := hl
  refine lv_iload_n hx hb dX11_successors_0 rfl (lv_at hl 1 rfl) ?_
  refine kc_Si (As := [.int g]) (rest := []) (wr := [(x, .inr (11, [.ref mo, .ref sm, .ref sc, .ref fo, .ref sf, .ref bu, .ref po, .ref te, .ref pa, .ref rw, .ref tr, .ref cl, .ref pt, .ref ru, .ref de, .int 0, .int 0])), (mo, .inr (3, [.ref mt, .ref mv, .int 1])), (mt, .inl (kmt, 4, .inl (fun _ => 0))), (mv, .inl (kmv, 18, .inl (fun _ => 0)))]) ⟨hx, hb, hml, hown, hts⟩ (ct_X11_isProgram l D g _ ) (va_cwS 1 hts (kg_S (mo_X11_successors 0 rfl) (mo_X11_successors 1 rfl) (mo_X11_successors 2 rfl) (goodIn_sub mb_X11_successors_0 gw_X11_isProgram)) rfl rfl rfl hd_X11_isProgram ⟨Nat.le_of_ble_eq_true rfl, Nat.le_of_ble_eq_true rfl⟩) hK hN hP hD hS hA [] [0, 1, 2, 3] [] rfl rfl (by decide) (by decide) (by decide) rfl rfl hl.1 rfl (Nat.le_of_ble_eq_true rfl) dX11_successors_1 ⟨Nat.le_of_ble_eq_true rfl, Nat.le_of_ble_eq_true rfl⟩ (fun r_1 u_2 H locs w_3 hP hD hK1 hS => ?_)
  have hP : va_P D vwCl [(x, .inr (11, [.ref mo, .ref sm, .ref sc, .ref fo, .ref sf, .ref bu, .ref po, .ref te, .ref pa, .ref rw, .ref tr, .ref cl, .ref pt, .ref ru, .ref de, .int 0, .int 0])), (mo, .inr (3, [.ref mt, .ref mv, .int 1])), (mt, .inl (kmt, 4, .inl (fun _ => 0))), (mv, .inl (kmv, 18, .inl (fun _ => 0)))] H := hP
  have hD : va_D A [(x, .inr (11, [.ref mo, .ref sm, .ref sc, .ref fo, .ref sf, .ref bu, .ref po, .ref te, .ref pa, .ref rw, .ref tr, .ref cl, .ref pt, .ref ru, .ref de, .int 0, .int 0])), (mo, .inr (3, [.ref mt, .ref mv, .int 1])), (mt, .inl (kmt, 4, .inl (fun _ => 0))), (mv, .inl (kmv, 18, .inl (fun _ => 0)))] := hD
  have w_3 : (r_1 = 1 ∧ (0 ≤ g ∧ g < 3)) ∨ (r_1 = 0 ∧ ¬ (0 ≤ g ∧ g < 3)) := w_3
  rcases w_3 with ⟨rfl, b_3⟩ | ⟨rfl, b_3⟩
  · refine lv_if_eq (tgt := 30) hx hb dX11_successors_4 (by decide) (fun c_4 => ?_) (fun c_4 => ?_)
    · exact absurd c_4 (by decide)
    · refine lv_aload_n hx hb dX11_successors_7 rfl (lv_at hl 0 rfl) ?_
      refine va_get (D := D) (ci := 11) (v := .ref mo) (C := RX11) (T := TX11) (N := 17) hx hb hts hiX11 hown hK hP 0 rfl rfl 0 (by decide) (hts (.fieldLink RX11 12 "DynamicLogicProver" "model" "LDynamicLogicProver$Model;") (mo_X11_successors 3 rfl)) (fun _ h9 => h9) rfl dX11_successors_8 ?_
      refine lv_iload_n hx hb dX11_successors_11 rfl (lv_at hl 2 rfl) ?_
      refine kc_Vi (As := [.int w]) (rest := []) (wr := [(x, .inr (11, [.ref mo, .ref sm, .ref sc, .ref fo, .ref sf, .ref bu, .ref po, .ref te, .ref pa, .ref rw, .ref tr, .ref cl, .ref pt, .ref ru, .ref de, .int 0, .int 0])), (mt, .inl (kmt, 4, .inl (fun _ => 0))), (mv, .inl (kmv, 18, .inl (fun _ => 0)))]) ⟨hx, hb, hml, hown, hts⟩ (ct_X3_has l D mo mt mv 1 w _ ) (cwV 1 hts (kg_V (mo_X11_successors 4 rfl) (mo_X11_successors 5 rfl) (mo_X11_successors 6 rfl) (mo_X11_successors 7 rfl) (goodIn_sub mb_X11_successors_1 gw_X3_has)) rfl rfl rfl ⟨rfl, hd_X3_has⟩ ⟨Nat.le_of_ble_eq_true rfl, Nat.le_of_ble_eq_true rfl⟩) (RX3, TX3, 3) 3 1 rfl rfl rfl hK hN hP hD hS hA [1] [0, 2, 3] [] rfl rfl (by decide) (by decide) (by decide) rfl rfl hl.1 rfl (Nat.le_of_ble_eq_true rfl) dX11_successors_12 ⟨Nat.le_of_ble_eq_true rfl, Nat.le_of_ble_eq_true rfl⟩ (fun r_5 u_6 H locs w_7 hP hD hK1 hS => ?_)
      have hP : va_P D vwCl [(x, .inr (11, [.ref mo, .ref sm, .ref sc, .ref fo, .ref sf, .ref bu, .ref po, .ref te, .ref pa, .ref rw, .ref tr, .ref cl, .ref pt, .ref ru, .ref de, .int 0, .int 0])), (mt, .inl (kmt, 4, .inl (fun _ => 0))), (mv, .inl (kmv, 18, .inl (fun _ => 0))), (mo, .inr (3, [.ref mt, .ref mv, .int 1]))] H := hP
      have hD : va_D A [(x, .inr (11, [.ref mo, .ref sm, .ref sc, .ref fo, .ref sf, .ref bu, .ref po, .ref te, .ref pa, .ref rw, .ref tr, .ref cl, .ref pt, .ref ru, .ref de, .int 0, .int 0])), (mt, .inl (kmt, 4, .inl (fun _ => 0))), (mv, .inl (kmv, 18, .inl (fun _ => 0))), (mo, .inr (3, [.ref mt, .ref mv, .int 1]))] := hD
      have w_7 : (r_5 = 1 ∧ (0 ≤ w ∧ w < 1)) ∨ (r_5 = 0 ∧ ¬ (0 ≤ w ∧ w < 1)) := w_7
      rcases w_7 with ⟨rfl, b_7⟩ | ⟨rfl, b_7⟩
      · refine lv_if_eq (tgt := 30) hx hb dX11_successors_15 (by decide) (fun c_8 => ?_) (fun c_8 => ?_)
        · exact absurd c_8 (by decide)
        · refine lv_aload_n hx hb dX11_successors_18 rfl (lv_at hl 0 rfl) ?_
          refine va_get (D := D) (ci := 11) (v := .ref mo) (C := RX11) (T := TX11) (N := 17) hx hb hts hiX11 hown hK hP 0 rfl rfl 0 (by decide) (hts (.fieldLink RX11 12 "DynamicLogicProver" "model" "LDynamicLogicProver$Model;") (mo_X11_successors 3 rfl)) (fun _ h9 => h9) rfl dX11_successors_19 ?_
          refine lv_iload_n hx hb dX11_successors_22 rfl (lv_at hl 1 rfl) ?_
          refine lv_iload_n hx hb dX11_successors_23 rfl (lv_at hl 2 rfl) ?_
          refine kc_Vi (As := [.int g, .int w]) (rest := []) (wr := [(x, .inr (11, [.ref mo, .ref sm, .ref sc, .ref fo, .ref sf, .ref bu, .ref po, .ref te, .ref pa, .ref rw, .ref tr, .ref cl, .ref pt, .ref ru, .ref de, .int 0, .int 0])), (mt, .inl (kmt, 4, .inl (fun _ => 0)))]) ⟨hx, hb, hml, hown, hts⟩ (ct_X3_moves l D mo mt mv kmv (fun _ => 0) 1 g w _ ) (cwV 2 hts (kg_V (mo_X11_successors 8 rfl) (mo_X11_successors 9 rfl) (mo_X11_successors 10 rfl) (mo_X11_successors 7 rfl) (goodIn_sub mb_X11_successors_2 gw_X3_moves)) rfl rfl rfl ⟨rfl, hd_X3_moves⟩ ⟨Nat.le_of_ble_eq_true rfl, Nat.le_of_ble_eq_true rfl⟩) (RX3, TX3, 3) 3 3 rfl rfl rfl hK hN hP hD hS hA [3, 2] [0, 1] [1] rfl rfl (by decide) (by decide) (by decide) rfl rfl hl.1 rfl (Nat.le_of_ble_eq_true rfl) dX11_successors_24 ⟨Nat.le_of_ble_eq_true rfl, Nat.le_of_ble_eq_true rfl⟩ (fun r_9 u_10 H locs w_11 hP hD hK1 hS => ?_)
          have hP : va_P D vwCl [(x, .inr (11, [.ref mo, .ref sm, .ref sc, .ref fo, .ref sf, .ref bu, .ref po, .ref te, .ref pa, .ref rw, .ref tr, .ref cl, .ref pt, .ref ru, .ref de, .int 0, .int 0])), (mt, .inl (kmt, 4, .inl (fun _ => 0))), (mo, .inr (3, [.ref mt, .ref mv, .int 1])), (mv, .inl (kmv, 18, .inl (fun _ => 0)))] H := hP
          have hD : va_D A [(x, .inr (11, [.ref mo, .ref sm, .ref sc, .ref fo, .ref sf, .ref bu, .ref po, .ref te, .ref pa, .ref rw, .ref tr, .ref cl, .ref pt, .ref ru, .ref de, .int 0, .int 0])), (mt, .inl (kmt, 4, .inl (fun _ => 0))), (mo, .inr (3, [.ref mt, .ref mv, .int 1])), (mv, .inl (kmv, 18, .inl (fun _ => 0)))] := hD
          have w_11 : r_9 = at_v (fun _ => 0) 18 (g * 6 + w) := w_11
          obtain rfl : r_9 = 0 := w_11.trans (at_v0 _ _)
          refine lv_goto (tgt := 31) hx hb dX11_successors_27 (by decide) ?_
          have hP9 := hP.sub (ws' := []) [] rfl
          have hD9 := hD.sub (ws' := []) [] (by decide) rfl
          have hK9 := hK.sub (tys' := []) [] rfl
          exact W.iret (v := 0) hx hb hr (fun tZ htZ hW => ⟨⟨0, (), rfl, (by unfold an_successors; first | rfl | ((repeat' split) <;> first | rfl | (exfalso; (try simp only [fa_lt, fa_le, fa_eq, ti_0, ti_1, ti_2, ti_3, ti_4, ti_5, ti_6, ti_8, ti_9, ti_10, ti_12, ti_18, ti_59, ti_60, ti_100, ti_127, ti_m1, ti_m2, ti_m3, ti_m4, ti_m5, ti_m10, ti_m11, ti_m12, ti_m13, ti_m14] at b_3); (try simp only [fa_lt, fa_le, fa_eq, ti_0, ti_1, ti_2, ti_3, ti_4, ti_5, ti_6, ti_8, ti_9, ti_10, ti_12, ti_18, ti_59, ti_60, ti_100, ti_127, ti_m1, ti_m2, ti_m3, ti_m4, ti_m5, ti_m10, ti_m11, ti_m12, ti_m13, ti_m14] at c_4); (try simp only [fa_lt, fa_le, fa_eq, ti_0, ti_1, ti_2, ti_3, ti_4, ti_5, ti_6, ti_8, ti_9, ti_10, ti_12, ti_18, ti_59, ti_60, ti_100, ti_127, ti_m1, ti_m2, ti_m3, ti_m4, ti_m5, ti_m10, ti_m11, ti_m12, ti_m13, ti_m14] at b_7); (try simp only [fa_lt, fa_le, fa_eq, ti_0, ti_1, ti_2, ti_3, ti_4, ti_5, ti_6, ti_8, ti_9, ti_10, ti_12, ti_18, ti_59, ti_60, ti_100, ti_127, ti_m1, ti_m2, ti_m3, ti_m4, ti_m5, ti_m10, ti_m11, ti_m12, ti_m13, ti_m14] at c_8); (try simp only [fa_lt, fa_le, fa_eq, ti_0, ti_1, ti_2, ti_3, ti_4, ti_5, ti_6, ti_8, ti_9, ti_10, ti_12, ti_18, ti_59, ti_60, ti_100, ti_127, ti_m1, ti_m2, ti_m3, ti_m4, ti_m5, ti_m10, ti_m11, ti_m12, ti_m13, ti_m14] at w_11); omega))), by rw [htZ]; exact hP9, va_K.moved hW.alike hK9, hD9⟩, hS.F htZ⟩) hS.2.2 dX11_successors_31
      · refine lv_if_eq (tgt := 30) hx hb dX11_successors_15 (by decide) (fun c_12 => ?_) (fun c_12 => ?_)
        · refine lv_iconst (v := (-1)) hx hb dX11_successors_30 (by decide) ?_
          have hP9 := hP.sub (ws' := []) [] rfl
          have hD9 := hD.sub (ws' := []) [] (by decide) rfl
          have hK9 := hK.sub (tys' := []) [] rfl
          exact W.iret (v := (-1)) hx hb hr (fun tZ htZ hW => ⟨⟨(-1), (), rfl, (by unfold an_successors; first | rfl | ((repeat' split) <;> first | rfl | (exfalso; (try simp only [fa_lt, fa_le, fa_eq, ti_0, ti_1, ti_2, ti_3, ti_4, ti_5, ti_6, ti_8, ti_9, ti_10, ti_12, ti_18, ti_59, ti_60, ti_100, ti_127, ti_m1, ti_m2, ti_m3, ti_m4, ti_m5, ti_m10, ti_m11, ti_m12, ti_m13, ti_m14] at b_3); (try simp only [fa_lt, fa_le, fa_eq, ti_0, ti_1, ti_2, ti_3, ti_4, ti_5, ti_6, ti_8, ti_9, ti_10, ti_12, ti_18, ti_59, ti_60, ti_100, ti_127, ti_m1, ti_m2, ti_m3, ti_m4, ti_m5, ti_m10, ti_m11, ti_m12, ti_m13, ti_m14] at c_4); (try simp only [fa_lt, fa_le, fa_eq, ti_0, ti_1, ti_2, ti_3, ti_4, ti_5, ti_6, ti_8, ti_9, ti_10, ti_12, ti_18, ti_59, ti_60, ti_100, ti_127, ti_m1, ti_m2, ti_m3, ti_m4, ti_m5, ti_m10, ti_m11, ti_m12, ti_m13, ti_m14] at b_7); (try simp only [fa_lt, fa_le, fa_eq, ti_0, ti_1, ti_2, ti_3, ti_4, ti_5, ti_6, ti_8, ti_9, ti_10, ti_12, ti_18, ti_59, ti_60, ti_100, ti_127, ti_m1, ti_m2, ti_m3, ti_m4, ti_m5, ti_m10, ti_m11, ti_m12, ti_m13, ti_m14] at c_12); omega))), by rw [htZ]; exact hP9, va_K.moved hW.alike hK9, hD9⟩, hS.F htZ⟩) hS.2.2 dX11_successors_31
        · exact absurd c_12 (by decide)
  · refine lv_if_eq (tgt := 30) hx hb dX11_successors_4 (by decide) (fun c_13 => ?_) (fun c_13 => ?_)
    · refine lv_iconst (v := (-1)) hx hb dX11_successors_30 (by decide) ?_
      have hP9 := hP.sub (ws' := []) [] rfl
      have hD9 := hD.sub (ws' := []) [] (by decide) rfl
      have hK9 := hK.sub (tys' := []) [] rfl
      exact W.iret (v := (-1)) hx hb hr (fun tZ htZ hW => ⟨⟨(-1), (), rfl, (by unfold an_successors; first | rfl | ((repeat' split) <;> first | rfl | (exfalso; (try simp only [fa_lt, fa_le, fa_eq, ti_0, ti_1, ti_2, ti_3, ti_4, ti_5, ti_6, ti_8, ti_9, ti_10, ti_12, ti_18, ti_59, ti_60, ti_100, ti_127, ti_m1, ti_m2, ti_m3, ti_m4, ti_m5, ti_m10, ti_m11, ti_m12, ti_m13, ti_m14] at b_3); (try simp only [fa_lt, fa_le, fa_eq, ti_0, ti_1, ti_2, ti_3, ti_4, ti_5, ti_6, ti_8, ti_9, ti_10, ti_12, ti_18, ti_59, ti_60, ti_100, ti_127, ti_m1, ti_m2, ti_m3, ti_m4, ti_m5, ti_m10, ti_m11, ti_m12, ti_m13, ti_m14] at c_13); omega))), by rw [htZ]; exact hP9, va_K.moved hW.alike hK9, hD9⟩, hS.F htZ⟩) hS.2.2 dX11_successors_31
    · exact absurd c_13 (by decide)
theorem dX11_bisimulationClasses_0 : decode cX11_bisimulationClasses 0 = .ok (.aload_n 0, 1) := by decide +kernel
theorem dX11_bisimulationClasses_1 : decode cX11_bisimulationClasses 1 = .ok (.getfield 87, 3) := by decide +kernel
theorem dX11_bisimulationClasses_4 : decode cX11_bisimulationClasses 4 = .ok (.aload_n 0, 1) := by decide +kernel
theorem dX11_bisimulationClasses_5 : decode cX11_bisimulationClasses 5 = .ok (.getfield 12, 3) := by decide +kernel
theorem dX11_bisimulationClasses_8 : decode cX11_bisimulationClasses 8 = .ok (.invokevirtual 159, 3) := by decide +kernel
theorem dX11_bisimulationClasses_11 : decode cX11_bisimulationClasses 11 = .ok (.aload_n 0, 1) := by decide +kernel
theorem dX11_bisimulationClasses_12 : decode cX11_bisimulationClasses 12 = .ok (.getfield 87, 3) := by decide +kernel
theorem dX11_bisimulationClasses_15 : decode cX11_bisimulationClasses 15 = .ok (.invokevirtual 163, 3) := by decide +kernel
theorem dX11_bisimulationClasses_18 : decode cX11_bisimulationClasses 18 = .ok (.ireturn, 1) := by decide +kernel
def wo_X11_bisimulationClasses : List Cond := [.fieldLink RX11 87 "DynamicLogicProver" "partition" "LDynamicLogicProver$Partition;", .fieldLink RX11 12 "DynamicLogicProver" "model" "LDynamicLogicProver$Model;", .methodLink RX11 159 yX5_bisimulate, .instanceMethod yX5_bisimulate, .selects RX5 yX5_bisimulate yX5_bisimulate, .initialized RX5, .methodLink RX11 163 yX5_size, .instanceMethod yX5_size, .selects RX5 yX5_size yX5_size]
def wd_X11_bisimulationClasses : List Cond := .code yX11_bisimulationClasses cX11_bisimulationClasses 1 (some .int) :: (wo_X11_bisimulationClasses ++ (wd_X5_bisimulate1 ++ (wd_X5_size ++ (wsX110 ++ ([] : List Cond)))))
theorem mo_X11_bisimulationClasses {w : Cond} (i : Nat) (h : wo_X11_bisimulationClasses[i]? = some w) : w ∈ wd_X11_bisimulationClasses := List.mem_cons_of_mem _ (List.mem_append_left _ (List.mem_of_getElem? h))
theorem mb_X11_bisimulationClasses_0 : ∀ w ∈ wd_X5_bisimulate1, w ∈ wd_X11_bisimulationClasses := fun w h => List.mem_cons_of_mem _ (List.mem_append_right _ (List.mem_append_left _ h))
theorem mb_X11_bisimulationClasses_1 : ∀ w ∈ wd_X5_size, w ∈ wd_X11_bisimulationClasses := fun w h => List.mem_cons_of_mem _ (List.mem_append_right _ (List.mem_append_right _ (List.mem_append_left _ h)))
theorem mb_X11_bisimulationClasses_2 : ∀ w ∈ wsX110, w ∈ wd_X11_bisimulationClasses := fun w h => List.mem_cons_of_mem _ (List.mem_append_right _ (List.mem_append_right _ (List.mem_append_right _ (List.mem_append_left _ h))))
theorem hd_X11_bisimulationClasses : yX11_bisimulationClasses.cls ≠ "java/lang/invoke/MethodHandle" ∧ yX11_bisimulationClasses.cls ≠ "java/lang/invoke/VarHandle" ∧ (parseMethodDescriptor yX11_bisimulationClasses.desc).map (fun d => d.parameters.length) = some 0 := by decide +kernel
set_option maxRecDepth 20000 in
theorem gw_X11_bisimulationClasses : wd_X11_bisimulationClasses.all goodWord = true := by decide +kernel
abbrev qc_X11_bisimulationClasses (D : va_G) (x : Nat) (mo : Nat) (sm : Nat) (sc : Nat) (fo : Nat) (sf : Nat) (bu : Nat) (po : Nat) (te : Nat) (pa : Nat) (rw : Nat) (tr : Nat) (cl : Nat) (pt : Nat) (ru : Nat) (de : Nat) (ta : Nat) (tb : Nat) (td : Nat) (kta : ClassId) (ktb : ClassId) (ktd : ClassId) (mt : Nat) (mv : Nat) (kmt : ClassId) (kmv : ClassId) (A : Nat → Prop) : Array Value → State → Outcome → State → Prop := va_Qi (fun (r : Int32) (uZ : Unit) => r = 1) (fun uZ tZ => kc_pos D A [] [] tZ) A
set_option maxHeartbeats 4000000 in
set_option maxRecDepth 100000 in
theorem ct_X11_bisimulationClasses (l : Launch) (D : va_G) (x : Nat) (mo : Nat) (sm : Nat) (sc : Nat) (fo : Nat) (sf : Nat) (bu : Nat) (po : Nat) (te : Nat) (pa : Nat) (rw : Nat) (tr : Nat) (cl : Nat) (pt : Nat) (ru : Nat) (de : Nat) (ta : Nat) (tb : Nat) (td : Nat) (kta : ClassId) (ktb : ClassId) (ktd : ClassId) (mt : Nat) (mv : Nat) (kmt : ClassId) (kmv : ClassId) (sz : Nat)  : Met l yX11_bisimulationClasses wd_X11_bisimulationClasses ({ frames := 5, cells := 0, slots := 0, locals := 115 }) (va_Pc [.ref x] (kc_pre D [(kta, .int), (ktb, .int), (ktd, .int), (kmt, .int), (kmv, .int)] [(x, .inr (11, [.ref mo, .ref sm, .ref sc, .ref fo, .ref sf, .ref bu, .ref po, .ref te, .ref pa, .ref rw, .ref tr, .ref cl, .ref pt, .ref ru, .ref de, .int 0, .int 0])), (pt, .inr (5, [.ref ta, .ref tb, .ref td, .int 1, .int 1])), (ta, .inl (kta, 6, .inl (fun _ => 0))), (tb, .inl (ktb, 6, .inl (fun _ => 0))), (td, .inl (ktd, 6, .inl (fun _ => 0))), (mo, .inr (3, [.ref mt, .ref mv, .int 1])), (mt, .inl (kmt, 4, .inl (fun _ => 0))), (mv, .inl (kmv, 18, .inl (fun _ => 0)))] sz)) (qc_X11_bisimulationClasses D x mo sm sc fo sf bu po te pa rw tr cl pt ru de ta tb td kta ktb ktd mt mv kmt kmv (va_A [(x, .inr (11, [.ref mo, .ref sm, .ref sc, .ref fo, .ref sf, .ref bu, .ref po, .ref te, .ref pa, .ref rw, .ref tr, .ref cl, .ref pt, .ref ru, .ref de, .int 0, .int 0])), (pt, .inr (5, [.ref ta, .ref tb, .ref td, .int 1, .int 1])), (ta, .inl (kta, 6, .inl (fun _ => 0))), (tb, .inl (ktb, 6, .inl (fun _ => 0))), (td, .inl (ktd, 6, .inl (fun _ => 0))), (mo, .inr (3, [.ref mt, .ref mv, .int 1])), (mt, .inl (kmt, 4, .inl (fun _ => 0))), (mv, .inl (kmv, 18, .inl (fun _ => 0)))] sz)) 0 0 (va_A [(x, .inr (11, [.ref mo, .ref sm, .ref sc, .ref fo, .ref sf, .ref bu, .ref po, .ref te, .ref pa, .ref rw, .ref tr, .ref cl, .ref pt, .ref ru, .ref de, .int 0, .int 0])), (pt, .inr (5, [.ref ta, .ref tb, .ref td, .int 1, .int 1])), (ta, .inl (kta, 6, .inl (fun _ => 0))), (tb, .inl (ktb, 6, .inl (fun _ => 0))), (td, .inl (ktd, 6, .inl (fun _ => 0))), (mo, .inr (3, [.ref mt, .ref mv, .int 1])), (mt, .inl (kmt, 4, .inl (fun _ => 0))), (mv, .inl (kmv, 18, .inl (fun _ => 0)))] sz) := by
  refine Met.ofW (cc := cX11_bisimulationClasses) (maxL := 1) (ret := (some .int)) (by decide) rfl ?_
  intro p e s m args below meth c s₁ B hml hv
  obtain ⟨rfl, hsz, hP, hK, hN, hD0⟩ := hv
  have hx := B.exec
  have hb := B.bytes
  have hr := B.returns
  have hts := atoms_spec (ws := wd_X11_bisimulationClasses) B.pre
  have hown : s.vm.findClass RX11 = some m.cls := findClass_of_methodNamed B.named
  have hlocks := B.notSynchronized
  subst hsz
  have hD := hD0.self (sz := s.heap.size)
  generalize hAe : va_A [(x, .inr (11, [.ref mo, .ref sm, .ref sc, .ref fo, .ref sf, .ref bu, .ref po, .ref te, .ref pa, .ref rw, .ref tr, .ref cl, .ref pt, .ref ru, .ref de, .int 0, .int 0])), (pt, .inr (5, [.ref ta, .ref tb, .ref td, .int 1, .int 1])), (ta, .inl (kta, 6, .inl (fun _ => 0))), (tb, .inl (ktb, 6, .inl (fun _ => 0))), (td, .inl (ktd, 6, .inl (fun _ => 0))), (mo, .inr (3, [.ref mt, .ref mv, .int 1])), (mt, .inl (kmt, 4, .inl (fun _ => 0))), (mv, .inl (kmv, 18, .inl (fun _ => 0)))] s.heap.size = A at hD ⊢
  have hA : ∀ q : Nat, s.heap.size ≤ q → A q := fun q h => by rw [← hAe]; exact Or.inr h
  have hS : va_S A s.heap s.heap [] := va_S.rf
  have hiX11 : ∀ w ∈ wsX110, w ∈ wd_X11_bisimulationClasses := mb_X11_bisimulationClasses_2
  have hl := lv_entry ([.ref x]) (n := 1) (Nat.le_of_ble_eq_true rfl)
  rw [lg_entry_eq]
  generalize (lg_sl ([.ref x]) ++ List.replicate (1 - (lg_sl ([.ref x])).length) Slot.unset).toArray = ls at hl ⊢
  have hl : lv_has ls 1 [(0, .ref x)] := hl
  refine lv_aload_n hx hb dX11_bisimulationClasses_0 rfl (lv_at hl 0 rfl) ?_
  refine va_get (D := D) (ci := 11) (v := .ref pt) (C := RX11) (T := TX11) (N := 17) hx hb hts hiX11 hown hK hP 0 rfl rfl 12 (by decide) (hts (.fieldLink RX11 87 "DynamicLogicProver" "partition" "LDynamicLogicProver$Partition;") (mo_X11_bisimulationClasses 0 rfl)) (fun _ h9 => h9) rfl dX11_bisimulationClasses_1 ?_
  refine lv_aload_n hx hb dX11_bisimulationClasses_4 rfl (lv_at hl 0 rfl) ?_
  refine va_get (D := D) (ci := 11) (v := .ref mo) (C := RX11) (T := TX11) (N := 17) hx hb hts hiX11 hown hK hP 0 rfl rfl 0 (by decide) (hts (.fieldLink RX11 12 "DynamicLogicProver" "model" "LDynamicLogicProver$Model;") (mo_X11_bisimulationClasses 1 rfl)) (fun _ h9 => h9) rfl dX11_bisimulationClasses_5 ?_
  refine kc_Vv (As := [.ref mo]) (rest := []) (wr := [(x, .inr (11, [.ref mo, .ref sm, .ref sc, .ref fo, .ref sf, .ref bu, .ref po, .ref te, .ref pa, .ref rw, .ref tr, .ref cl, .ref pt, .ref ru, .ref de, .int 0, .int 0]))]) ⟨hx, hb, hml, hown, hts⟩ (ct_X5_bisimulate1 l D pt ta tb td kta ktb ktd (fun _ => 0) (fun _ => 0) (fun _ => 0) mo mt mv kmt kmv (fun _ => 0) (fun _ => 0) 1 1 _ ) (cwV 1 hts (kg_V (mo_X11_bisimulationClasses 2 rfl) (mo_X11_bisimulationClasses 3 rfl) (mo_X11_bisimulationClasses 4 rfl) (mo_X11_bisimulationClasses 5 rfl) (goodIn_sub mb_X11_bisimulationClasses_0 gw_X5_bisimulate1)) rfl rfl rfl ⟨rfl, hd_X5_bisimulate⟩ ⟨Nat.le_of_ble_eq_true rfl, Nat.le_of_ble_eq_true rfl⟩) (RX5, TX5, 5) 5 1 rfl rfl rfl hK hN hP hD hS hA [1, 2, 3, 4, 5, 6, 7] [0] [0, 1, 2, 3, 4] rfl rfl (by decide) (by decide) (by decide) rfl rfl hl.1 rfl (Nat.le_of_ble_eq_true rfl) dX11_bisimulationClasses_8 ⟨Nat.le_of_ble_eq_true rfl, Nat.le_of_ble_eq_true rfl⟩ (fun u_2 H locs w_3 hP hD hK1 hS => ?_)
  obtain ⟨o_4, o_5, o_6⟩ := u_2
  have hP : va_P D vwCl [(x, .inr (11, [.ref mo, .ref sm, .ref sc, .ref fo, .ref sf, .ref bu, .ref po, .ref te, .ref pa, .ref rw, .ref tr, .ref cl, .ref pt, .ref ru, .ref de, .int 0, .int 0])), (pt, .inr (5, [.ref ta, .ref tb, .ref td, .int 1, .int 1])), (ta, .inl (kta, 6, .inl o_4)), (tb, .inl (ktb, 6, .inl o_5)), (td, .inl (ktd, 6, .inl o_6)), (mo, .inr (3, [.ref mt, .ref mv, .int 1])), (mt, .inl (kmt, 4, .inl (fun _ => 0))), (mv, .inl (kmv, 18, .inl (fun _ => 0)))] H := hP
  have hD : va_D A [(x, .inr (11, [.ref mo, .ref sm, .ref sc, .ref fo, .ref sf, .ref bu, .ref po, .ref te, .ref pa, .ref rw, .ref tr, .ref cl, .ref pt, .ref ru, .ref de, .int 0, .int 0])), (pt, .inr (5, [.ref ta, .ref tb, .ref td, .int 1, .int 1])), (ta, .inl (kta, 6, .inl o_4)), (tb, .inl (ktb, 6, .inl o_5)), (td, .inl (ktd, 6, .inl o_6)), (mo, .inr (3, [.ref mt, .ref mv, .int 1])), (mt, .inl (kmt, 4, .inl (fun _ => 0))), (mv, .inl (kmv, 18, .inl (fun _ => 0)))] := hD
  have w_3 : o_4 0 = 0 := w_3
  refine lv_aload_n hx hb dX11_bisimulationClasses_11 rfl (lv_at hl 0 rfl) ?_
  refine va_get (D := D) (ci := 11) (v := .ref pt) (C := RX11) (T := TX11) (N := 17) hx hb hts hiX11 hown hK hP 0 rfl rfl 12 (by decide) (hts (.fieldLink RX11 87 "DynamicLogicProver" "partition" "LDynamicLogicProver$Partition;") (mo_X11_bisimulationClasses 0 rfl)) (fun _ h9 => h9) rfl dX11_bisimulationClasses_12 ?_
  refine kc_Vi (As := []) (rest := []) (wr := [(x, .inr (11, [.ref mo, .ref sm, .ref sc, .ref fo, .ref sf, .ref bu, .ref po, .ref te, .ref pa, .ref rw, .ref tr, .ref cl, .ref pt, .ref ru, .ref de, .int 0, .int 0])), (ta, .inl (kta, 6, .inl o_4)), (tb, .inl (ktb, 6, .inl o_5)), (td, .inl (ktd, 6, .inl o_6)), (mo, .inr (3, [.ref mt, .ref mv, .int 1])), (mt, .inl (kmt, 4, .inl (fun _ => 0))), (mv, .inl (kmv, 18, .inl (fun _ => 0)))]) ⟨hx, hb, hml, hown, hts⟩ (ct_X5_size l D pt ta tb td 1 1 _ ) (cwV 0 hts (kg_V (mo_X11_bisimulationClasses 6 rfl) (mo_X11_bisimulationClasses 7 rfl) (mo_X11_bisimulationClasses 8 rfl) (mo_X11_bisimulationClasses 5 rfl) (goodIn_sub mb_X11_bisimulationClasses_1 gw_X5_size)) rfl rfl rfl ⟨rfl, hd_X5_size⟩ ⟨Nat.le_of_ble_eq_true rfl, Nat.le_of_ble_eq_true rfl⟩) (RX5, TX5, 5) 5 1 rfl rfl rfl hK hN hP hD hS hA [1] [0, 2, 3, 4, 5, 6, 7] [] rfl rfl (by decide) (by decide) (by decide) rfl rfl hl.1 rfl (Nat.le_of_ble_eq_true rfl) dX11_bisimulationClasses_15 ⟨Nat.le_of_ble_eq_true rfl, Nat.le_of_ble_eq_true rfl⟩ (fun r_7 u_8 H locs w_9 hP hD hK1 hS => ?_)
  have hP : va_P D vwCl [(x, .inr (11, [.ref mo, .ref sm, .ref sc, .ref fo, .ref sf, .ref bu, .ref po, .ref te, .ref pa, .ref rw, .ref tr, .ref cl, .ref pt, .ref ru, .ref de, .int 0, .int 0])), (ta, .inl (kta, 6, .inl o_4)), (tb, .inl (ktb, 6, .inl o_5)), (td, .inl (ktd, 6, .inl o_6)), (mo, .inr (3, [.ref mt, .ref mv, .int 1])), (mt, .inl (kmt, 4, .inl (fun _ => 0))), (mv, .inl (kmv, 18, .inl (fun _ => 0))), (pt, .inr (5, [.ref ta, .ref tb, .ref td, .int 1, .int 1]))] H := hP
  have hD : va_D A [(x, .inr (11, [.ref mo, .ref sm, .ref sc, .ref fo, .ref sf, .ref bu, .ref po, .ref te, .ref pa, .ref rw, .ref tr, .ref cl, .ref pt, .ref ru, .ref de, .int 0, .int 0])), (ta, .inl (kta, 6, .inl o_4)), (tb, .inl (ktb, 6, .inl o_5)), (td, .inl (ktd, 6, .inl o_6)), (mo, .inr (3, [.ref mt, .ref mv, .int 1])), (mt, .inl (kmt, 4, .inl (fun _ => 0))), (mv, .inl (kmv, 18, .inl (fun _ => 0))), (pt, .inr (5, [.ref ta, .ref tb, .ref td, .int 1, .int 1]))] := hD
  have w_9 : r_7 = 1 := w_9
  subst w_9
  have hP9 := hP.sub (ws' := []) [] rfl
  have hD9 := hD.sub (ws' := []) [] (by decide) rfl
  have hK9 := hK.sub (tys' := []) [] rfl
  exact W.iret (v := 1) hx hb hr (fun tZ htZ hW => ⟨⟨1, (), rfl, rfl, by rw [htZ]; exact hP9, va_K.moved hW.alike hK9, hD9⟩, hS.F htZ⟩) hS.2.2 dX11_bisimulationClasses_18
theorem dX11_bisimulationClass_0 : decode cX11_bisimulationClass 0 = .ok (.aload_n 0, 1) := by decide +kernel
theorem dX11_bisimulationClass_1 : decode cX11_bisimulationClass 1 = .ok (.getfield 12, 3) := by decide +kernel
theorem dX11_bisimulationClass_4 : decode cX11_bisimulationClass 4 = .ok (.iload_n 1, 1) := by decide +kernel
theorem dX11_bisimulationClass_5 : decode cX11_bisimulationClass 5 = .ok (.invokevirtual 125, 3) := by decide +kernel
theorem dX11_bisimulationClass_8 : decode cX11_bisimulationClass 8 = .ok (.ifCond .ne 5, 3) := by decide +kernel
theorem dX11_bisimulationClass_11 : decode cX11_bisimulationClass 11 = .ok (.iconst (-1), 1) := by decide +kernel
theorem dX11_bisimulationClass_12 : decode cX11_bisimulationClass 12 = .ok (.ireturn, 1) := by decide +kernel
theorem dX11_bisimulationClass_13 : decode cX11_bisimulationClass 13 = .ok (.aload_n 0, 1) := by decide +kernel
theorem dX11_bisimulationClass_14 : decode cX11_bisimulationClass 14 = .ok (.getfield 87, 3) := by decide +kernel
theorem dX11_bisimulationClass_17 : decode cX11_bisimulationClass 17 = .ok (.aload_n 0, 1) := by decide +kernel
theorem dX11_bisimulationClass_18 : decode cX11_bisimulationClass 18 = .ok (.getfield 12, 3) := by decide +kernel
theorem dX11_bisimulationClass_21 : decode cX11_bisimulationClass 21 = .ok (.invokevirtual 159, 3) := by decide +kernel
theorem dX11_bisimulationClass_24 : decode cX11_bisimulationClass 24 = .ok (.aload_n 0, 1) := by decide +kernel
theorem dX11_bisimulationClass_25 : decode cX11_bisimulationClass 25 = .ok (.getfield 87, 3) := by decide +kernel
theorem dX11_bisimulationClass_28 : decode cX11_bisimulationClass 28 = .ok (.iload_n 1, 1) := by decide +kernel
theorem dX11_bisimulationClass_29 : decode cX11_bisimulationClass 29 = .ok (.invokevirtual 164, 3) := by decide +kernel
theorem dX11_bisimulationClass_32 : decode cX11_bisimulationClass 32 = .ok (.ireturn, 1) := by decide +kernel
def wo_X11_bisimulationClass : List Cond := [.fieldLink RX11 12 "DynamicLogicProver" "model" "LDynamicLogicProver$Model;", .methodLink RX11 125 yX3_has, .instanceMethod yX3_has, .selects RX3 yX3_has yX3_has, .initialized RX3, .fieldLink RX11 87 "DynamicLogicProver" "partition" "LDynamicLogicProver$Partition;", .methodLink RX11 159 yX5_bisimulate, .instanceMethod yX5_bisimulate, .selects RX5 yX5_bisimulate yX5_bisimulate, .initialized RX5, .methodLink RX11 164 yX5_classOf, .instanceMethod yX5_classOf, .selects RX5 yX5_classOf yX5_classOf]
def wd_X11_bisimulationClass : List Cond := .code yX11_bisimulationClass cX11_bisimulationClass 2 (some .int) :: (wo_X11_bisimulationClass ++ (wd_X3_has ++ (wd_X5_bisimulate1 ++ (wd_X5_classOf ++ (wsX110 ++ ([] : List Cond))))))
theorem mo_X11_bisimulationClass {w : Cond} (i : Nat) (h : wo_X11_bisimulationClass[i]? = some w) : w ∈ wd_X11_bisimulationClass := List.mem_cons_of_mem _ (List.mem_append_left _ (List.mem_of_getElem? h))
theorem mb_X11_bisimulationClass_0 : ∀ w ∈ wd_X3_has, w ∈ wd_X11_bisimulationClass := fun w h => List.mem_cons_of_mem _ (List.mem_append_right _ (List.mem_append_left _ h))
theorem mb_X11_bisimulationClass_1 : ∀ w ∈ wd_X5_bisimulate1, w ∈ wd_X11_bisimulationClass := fun w h => List.mem_cons_of_mem _ (List.mem_append_right _ (List.mem_append_right _ (List.mem_append_left _ h)))
theorem mb_X11_bisimulationClass_2 : ∀ w ∈ wd_X5_classOf, w ∈ wd_X11_bisimulationClass := fun w h => List.mem_cons_of_mem _ (List.mem_append_right _ (List.mem_append_right _ (List.mem_append_right _ (List.mem_append_left _ h))))
theorem mb_X11_bisimulationClass_3 : ∀ w ∈ wsX110, w ∈ wd_X11_bisimulationClass := fun w h => List.mem_cons_of_mem _ (List.mem_append_right _ (List.mem_append_right _ (List.mem_append_right _ (List.mem_append_right _ (List.mem_append_left _ h)))))
theorem hd_X11_bisimulationClass : yX11_bisimulationClass.cls ≠ "java/lang/invoke/MethodHandle" ∧ yX11_bisimulationClass.cls ≠ "java/lang/invoke/VarHandle" ∧ (parseMethodDescriptor yX11_bisimulationClass.desc).map (fun d => d.parameters.length) = some 1 := by decide +kernel
set_option maxRecDepth 20000 in
theorem gw_X11_bisimulationClass : wd_X11_bisimulationClass.all goodWord = true := by decide +kernel
abbrev qc_X11_bisimulationClass (D : va_G) (x : Nat) (mo : Nat) (sm : Nat) (sc : Nat) (fo : Nat) (sf : Nat) (bu : Nat) (po : Nat) (te : Nat) (pa : Nat) (rw : Nat) (tr : Nat) (cl : Nat) (pt : Nat) (ru : Nat) (de : Nat) (ta : Nat) (tb : Nat) (td : Nat) (kta : ClassId) (ktb : ClassId) (ktd : ClassId) (mt : Nat) (mv : Nat) (kmt : ClassId) (kmv : ClassId) (w : Int32) (A : Nat → Prop) : Array Value → State → Outcome → State → Prop := va_Qi (fun (r : Int32) (uZ : Unit) => r = an_letters w) (fun uZ tZ => kc_pos D A [] [] tZ) A
set_option maxHeartbeats 4000000 in
set_option maxRecDepth 100000 in
theorem ct_X11_bisimulationClass (l : Launch) (D : va_G) (x : Nat) (mo : Nat) (sm : Nat) (sc : Nat) (fo : Nat) (sf : Nat) (bu : Nat) (po : Nat) (te : Nat) (pa : Nat) (rw : Nat) (tr : Nat) (cl : Nat) (pt : Nat) (ru : Nat) (de : Nat) (ta : Nat) (tb : Nat) (td : Nat) (kta : ClassId) (ktb : ClassId) (ktd : ClassId) (mt : Nat) (mv : Nat) (kmt : ClassId) (kmv : ClassId) (w : Int32) (sz : Nat)  : Met l yX11_bisimulationClass wd_X11_bisimulationClass ({ frames := 5, cells := 0, slots := 0, locals := 115 }) (va_Pc [.ref x, .int w] (kc_pre D [(kta, .int), (ktb, .int), (ktd, .int), (kmt, .int), (kmv, .int)] [(x, .inr (11, [.ref mo, .ref sm, .ref sc, .ref fo, .ref sf, .ref bu, .ref po, .ref te, .ref pa, .ref rw, .ref tr, .ref cl, .ref pt, .ref ru, .ref de, .int 0, .int 0])), (pt, .inr (5, [.ref ta, .ref tb, .ref td, .int 1, .int 1])), (ta, .inl (kta, 6, .inl (fun _ => 0))), (tb, .inl (ktb, 6, .inl (fun _ => 0))), (td, .inl (ktd, 6, .inl (fun _ => 0))), (mo, .inr (3, [.ref mt, .ref mv, .int 1])), (mt, .inl (kmt, 4, .inl (fun _ => 0))), (mv, .inl (kmv, 18, .inl (fun _ => 0)))] sz)) (qc_X11_bisimulationClass D x mo sm sc fo sf bu po te pa rw tr cl pt ru de ta tb td kta ktb ktd mt mv kmt kmv w (va_A [(x, .inr (11, [.ref mo, .ref sm, .ref sc, .ref fo, .ref sf, .ref bu, .ref po, .ref te, .ref pa, .ref rw, .ref tr, .ref cl, .ref pt, .ref ru, .ref de, .int 0, .int 0])), (pt, .inr (5, [.ref ta, .ref tb, .ref td, .int 1, .int 1])), (ta, .inl (kta, 6, .inl (fun _ => 0))), (tb, .inl (ktb, 6, .inl (fun _ => 0))), (td, .inl (ktd, 6, .inl (fun _ => 0))), (mo, .inr (3, [.ref mt, .ref mv, .int 1])), (mt, .inl (kmt, 4, .inl (fun _ => 0))), (mv, .inl (kmv, 18, .inl (fun _ => 0)))] sz)) 0 0 (va_A [(x, .inr (11, [.ref mo, .ref sm, .ref sc, .ref fo, .ref sf, .ref bu, .ref po, .ref te, .ref pa, .ref rw, .ref tr, .ref cl, .ref pt, .ref ru, .ref de, .int 0, .int 0])), (pt, .inr (5, [.ref ta, .ref tb, .ref td, .int 1, .int 1])), (ta, .inl (kta, 6, .inl (fun _ => 0))), (tb, .inl (ktb, 6, .inl (fun _ => 0))), (td, .inl (ktd, 6, .inl (fun _ => 0))), (mo, .inr (3, [.ref mt, .ref mv, .int 1])), (mt, .inl (kmt, 4, .inl (fun _ => 0))), (mv, .inl (kmv, 18, .inl (fun _ => 0)))] sz) := by
  refine Met.ofW (cc := cX11_bisimulationClass) (maxL := 2) (ret := (some .int)) (by decide) rfl ?_
  intro p e s m args below meth c s₁ B hml hv
  obtain ⟨rfl, hsz, hP, hK, hN, hD0⟩ := hv
  have hx := B.exec
  have hb := B.bytes
  have hr := B.returns
  have hts := atoms_spec (ws := wd_X11_bisimulationClass) B.pre
  have hown : s.vm.findClass RX11 = some m.cls := findClass_of_methodNamed B.named
  have hlocks := B.notSynchronized
  subst hsz
  have hD := hD0.self (sz := s.heap.size)
  generalize hAe : va_A [(x, .inr (11, [.ref mo, .ref sm, .ref sc, .ref fo, .ref sf, .ref bu, .ref po, .ref te, .ref pa, .ref rw, .ref tr, .ref cl, .ref pt, .ref ru, .ref de, .int 0, .int 0])), (pt, .inr (5, [.ref ta, .ref tb, .ref td, .int 1, .int 1])), (ta, .inl (kta, 6, .inl (fun _ => 0))), (tb, .inl (ktb, 6, .inl (fun _ => 0))), (td, .inl (ktd, 6, .inl (fun _ => 0))), (mo, .inr (3, [.ref mt, .ref mv, .int 1])), (mt, .inl (kmt, 4, .inl (fun _ => 0))), (mv, .inl (kmv, 18, .inl (fun _ => 0)))] s.heap.size = A at hD ⊢
  have hA : ∀ q : Nat, s.heap.size ≤ q → A q := fun q h => by rw [← hAe]; exact Or.inr h
  have hS : va_S A s.heap s.heap [] := va_S.rf
  have hiX11 : ∀ w ∈ wsX110, w ∈ wd_X11_bisimulationClass := mb_X11_bisimulationClass_3
  have hl := lv_entry ([.ref x, .int w]) (n := 2) (Nat.le_of_ble_eq_true rfl)
  rw [lg_entry_eq]
  generalize (lg_sl ([.ref x, .int w]) ++ List.replicate (2 - (lg_sl ([.ref x, .int w])).length) Slot.unset).toArray = ls at hl ⊢
  have hl : lv_has ls 2 [(0, .ref x), (1, .int w)] := hl
  refine lv_aload_n hx hb dX11_bisimulationClass_0 rfl (lv_at hl 0 rfl) ?_
  refine va_get (D := D) (ci := 11) (v := .ref mo) (C := RX11) (T := TX11) (N := 17) hx hb hts hiX11 hown hK hP 0 rfl rfl 0 (by decide) (hts (.fieldLink RX11 12 "DynamicLogicProver" "model" "LDynamicLogicProver$Model;") (mo_X11_bisimulationClass 0 rfl)) (fun _ h9 => h9) rfl dX11_bisimulationClass_1 ?_
  refine lv_iload_n hx hb dX11_bisimulationClass_4 rfl (lv_at hl 1 rfl) ?_
  refine kc_Vi (As := [.int w]) (rest := []) (wr := [(x, .inr (11, [.ref mo, .ref sm, .ref sc, .ref fo, .ref sf, .ref bu, .ref po, .ref te, .ref pa, .ref rw, .ref tr, .ref cl, .ref pt, .ref ru, .ref de, .int 0, .int 0])), (pt, .inr (5, [.ref ta, .ref tb, .ref td, .int 1, .int 1])), (ta, .inl (kta, 6, .inl (fun _ => 0))), (tb, .inl (ktb, 6, .inl (fun _ => 0))), (td, .inl (ktd, 6, .inl (fun _ => 0))), (mt, .inl (kmt, 4, .inl (fun _ => 0))), (mv, .inl (kmv, 18, .inl (fun _ => 0)))]) ⟨hx, hb, hml, hown, hts⟩ (ct_X3_has l D mo mt mv 1 w _ ) (cwV 1 hts (kg_V (mo_X11_bisimulationClass 1 rfl) (mo_X11_bisimulationClass 2 rfl) (mo_X11_bisimulationClass 3 rfl) (mo_X11_bisimulationClass 4 rfl) (goodIn_sub mb_X11_bisimulationClass_0 gw_X3_has)) rfl rfl rfl ⟨rfl, hd_X3_has⟩ ⟨Nat.le_of_ble_eq_true rfl, Nat.le_of_ble_eq_true rfl⟩) (RX3, TX3, 3) 3 5 rfl rfl rfl hK hN hP hD hS hA [5] [0, 1, 2, 3, 4, 6, 7] [] rfl rfl (by decide) (by decide) (by decide) rfl rfl hl.1 rfl (Nat.le_of_ble_eq_true rfl) dX11_bisimulationClass_5 ⟨Nat.le_of_ble_eq_true rfl, Nat.le_of_ble_eq_true rfl⟩ (fun r_1 u_2 H locs w_3 hP hD hK1 hS => ?_)
  have hP : va_P D vwCl [(x, .inr (11, [.ref mo, .ref sm, .ref sc, .ref fo, .ref sf, .ref bu, .ref po, .ref te, .ref pa, .ref rw, .ref tr, .ref cl, .ref pt, .ref ru, .ref de, .int 0, .int 0])), (pt, .inr (5, [.ref ta, .ref tb, .ref td, .int 1, .int 1])), (ta, .inl (kta, 6, .inl (fun _ => 0))), (tb, .inl (ktb, 6, .inl (fun _ => 0))), (td, .inl (ktd, 6, .inl (fun _ => 0))), (mt, .inl (kmt, 4, .inl (fun _ => 0))), (mv, .inl (kmv, 18, .inl (fun _ => 0))), (mo, .inr (3, [.ref mt, .ref mv, .int 1]))] H := hP
  have hD : va_D A [(x, .inr (11, [.ref mo, .ref sm, .ref sc, .ref fo, .ref sf, .ref bu, .ref po, .ref te, .ref pa, .ref rw, .ref tr, .ref cl, .ref pt, .ref ru, .ref de, .int 0, .int 0])), (pt, .inr (5, [.ref ta, .ref tb, .ref td, .int 1, .int 1])), (ta, .inl (kta, 6, .inl (fun _ => 0))), (tb, .inl (ktb, 6, .inl (fun _ => 0))), (td, .inl (ktd, 6, .inl (fun _ => 0))), (mt, .inl (kmt, 4, .inl (fun _ => 0))), (mv, .inl (kmv, 18, .inl (fun _ => 0))), (mo, .inr (3, [.ref mt, .ref mv, .int 1]))] := hD
  have w_3 : (r_1 = 1 ∧ (0 ≤ w ∧ w < 1)) ∨ (r_1 = 0 ∧ ¬ (0 ≤ w ∧ w < 1)) := w_3
  rcases w_3 with ⟨rfl, b_3⟩ | ⟨rfl, b_3⟩
  · refine lv_if_ne (tgt := 13) hx hb dX11_bisimulationClass_8 (by decide) (fun c_4 => ?_) (fun c_4 => ?_)
    · refine lv_aload_n hx hb dX11_bisimulationClass_13 rfl (lv_at hl 0 rfl) ?_
      refine va_get (D := D) (ci := 11) (v := .ref pt) (C := RX11) (T := TX11) (N := 17) hx hb hts hiX11 hown hK hP 0 rfl rfl 12 (by decide) (hts (.fieldLink RX11 87 "DynamicLogicProver" "partition" "LDynamicLogicProver$Partition;") (mo_X11_bisimulationClass 5 rfl)) (fun _ h9 => h9) rfl dX11_bisimulationClass_14 ?_
      refine lv_aload_n hx hb dX11_bisimulationClass_17 rfl (lv_at hl 0 rfl) ?_
      refine va_get (D := D) (ci := 11) (v := .ref mo) (C := RX11) (T := TX11) (N := 17) hx hb hts hiX11 hown hK hP 0 rfl rfl 0 (by decide) (hts (.fieldLink RX11 12 "DynamicLogicProver" "model" "LDynamicLogicProver$Model;") (mo_X11_bisimulationClass 0 rfl)) (fun _ h9 => h9) rfl dX11_bisimulationClass_18 ?_
      refine kc_Vv (As := [.ref mo]) (rest := []) (wr := [(x, .inr (11, [.ref mo, .ref sm, .ref sc, .ref fo, .ref sf, .ref bu, .ref po, .ref te, .ref pa, .ref rw, .ref tr, .ref cl, .ref pt, .ref ru, .ref de, .int 0, .int 0]))]) ⟨hx, hb, hml, hown, hts⟩ (ct_X5_bisimulate1 l D pt ta tb td kta ktb ktd (fun _ => 0) (fun _ => 0) (fun _ => 0) mo mt mv kmt kmv (fun _ => 0) (fun _ => 0) 1 1 _ ) (cwV 1 hts (kg_V (mo_X11_bisimulationClass 6 rfl) (mo_X11_bisimulationClass 7 rfl) (mo_X11_bisimulationClass 8 rfl) (mo_X11_bisimulationClass 9 rfl) (goodIn_sub mb_X11_bisimulationClass_1 gw_X5_bisimulate1)) rfl rfl rfl ⟨rfl, hd_X5_bisimulate⟩ ⟨Nat.le_of_ble_eq_true rfl, Nat.le_of_ble_eq_true rfl⟩) (RX5, TX5, 5) 5 1 rfl rfl rfl hK hN hP hD hS hA [1, 2, 3, 4, 7, 5, 6] [0] [0, 1, 2, 3, 4] rfl rfl (by decide) (by decide) (by decide) rfl rfl hl.1 rfl (Nat.le_of_ble_eq_true rfl) dX11_bisimulationClass_21 ⟨Nat.le_of_ble_eq_true rfl, Nat.le_of_ble_eq_true rfl⟩ (fun u_6 H locs w_7 hP hD hK1 hS => ?_)
      obtain ⟨o_8, o_9, o_10⟩ := u_6
      have hP : va_P D vwCl [(x, .inr (11, [.ref mo, .ref sm, .ref sc, .ref fo, .ref sf, .ref bu, .ref po, .ref te, .ref pa, .ref rw, .ref tr, .ref cl, .ref pt, .ref ru, .ref de, .int 0, .int 0])), (pt, .inr (5, [.ref ta, .ref tb, .ref td, .int 1, .int 1])), (ta, .inl (kta, 6, .inl o_8)), (tb, .inl (ktb, 6, .inl o_9)), (td, .inl (ktd, 6, .inl o_10)), (mo, .inr (3, [.ref mt, .ref mv, .int 1])), (mt, .inl (kmt, 4, .inl (fun _ => 0))), (mv, .inl (kmv, 18, .inl (fun _ => 0)))] H := hP
      have hD : va_D A [(x, .inr (11, [.ref mo, .ref sm, .ref sc, .ref fo, .ref sf, .ref bu, .ref po, .ref te, .ref pa, .ref rw, .ref tr, .ref cl, .ref pt, .ref ru, .ref de, .int 0, .int 0])), (pt, .inr (5, [.ref ta, .ref tb, .ref td, .int 1, .int 1])), (ta, .inl (kta, 6, .inl o_8)), (tb, .inl (ktb, 6, .inl o_9)), (td, .inl (ktd, 6, .inl o_10)), (mo, .inr (3, [.ref mt, .ref mv, .int 1])), (mt, .inl (kmt, 4, .inl (fun _ => 0))), (mv, .inl (kmv, 18, .inl (fun _ => 0)))] := hD
      have w_7 : o_8 0 = 0 := w_7
      refine lv_aload_n hx hb dX11_bisimulationClass_24 rfl (lv_at hl 0 rfl) ?_
      refine va_get (D := D) (ci := 11) (v := .ref pt) (C := RX11) (T := TX11) (N := 17) hx hb hts hiX11 hown hK hP 0 rfl rfl 12 (by decide) (hts (.fieldLink RX11 87 "DynamicLogicProver" "partition" "LDynamicLogicProver$Partition;") (mo_X11_bisimulationClass 5 rfl)) (fun _ h9 => h9) rfl dX11_bisimulationClass_25 ?_
      refine lv_iload_n hx hb dX11_bisimulationClass_28 rfl (lv_at hl 1 rfl) ?_
      refine kc_Vi (As := [.int w]) (rest := []) (wr := [(x, .inr (11, [.ref mo, .ref sm, .ref sc, .ref fo, .ref sf, .ref bu, .ref po, .ref te, .ref pa, .ref rw, .ref tr, .ref cl, .ref pt, .ref ru, .ref de, .int 0, .int 0])), (tb, .inl (ktb, 6, .inl o_9)), (td, .inl (ktd, 6, .inl o_10)), (mo, .inr (3, [.ref mt, .ref mv, .int 1])), (mt, .inl (kmt, 4, .inl (fun _ => 0))), (mv, .inl (kmv, 18, .inl (fun _ => 0)))]) ⟨hx, hb, hml, hown, hts⟩ (ct_X5_classOf l D pt ta tb td kta o_8 1 1 w _ ) (cwV 1 hts (kg_V (mo_X11_bisimulationClass 10 rfl) (mo_X11_bisimulationClass 11 rfl) (mo_X11_bisimulationClass 12 rfl) (mo_X11_bisimulationClass 9 rfl) (goodIn_sub mb_X11_bisimulationClass_2 gw_X5_classOf)) rfl rfl rfl ⟨rfl, hd_X5_classOf⟩ ⟨Nat.le_of_ble_eq_true rfl, Nat.le_of_ble_eq_true rfl⟩) (RX5, TX5, 5) 5 1 rfl rfl rfl hK hN hP hD hS hA [1, 2] [0, 3, 4, 5, 6, 7] [0] rfl rfl (by decide) (by decide) (by decide) rfl rfl hl.1 rfl (Nat.le_of_ble_eq_true rfl) dX11_bisimulationClass_29 ⟨Nat.le_of_ble_eq_true rfl, Nat.le_of_ble_eq_true rfl⟩ (fun r_11 u_12 H locs w_13 hP hD hK1 hS => ?_)
      have hP : va_P D vwCl [(x, .inr (11, [.ref mo, .ref sm, .ref sc, .ref fo, .ref sf, .ref bu, .ref po, .ref te, .ref pa, .ref rw, .ref tr, .ref cl, .ref pt, .ref ru, .ref de, .int 0, .int 0])), (tb, .inl (ktb, 6, .inl o_9)), (td, .inl (ktd, 6, .inl o_10)), (mo, .inr (3, [.ref mt, .ref mv, .int 1])), (mt, .inl (kmt, 4, .inl (fun _ => 0))), (mv, .inl (kmv, 18, .inl (fun _ => 0))), (pt, .inr (5, [.ref ta, .ref tb, .ref td, .int 1, .int 1])), (ta, .inl (kta, 6, .inl o_8))] H := hP
      have hD : va_D A [(x, .inr (11, [.ref mo, .ref sm, .ref sc, .ref fo, .ref sf, .ref bu, .ref po, .ref te, .ref pa, .ref rw, .ref tr, .ref cl, .ref pt, .ref ru, .ref de, .int 0, .int 0])), (tb, .inl (ktb, 6, .inl o_9)), (td, .inl (ktd, 6, .inl o_10)), (mo, .inr (3, [.ref mt, .ref mv, .int 1])), (mt, .inl (kmt, 4, .inl (fun _ => 0))), (mv, .inl (kmv, 18, .inl (fun _ => 0))), (pt, .inr (5, [.ref ta, .ref tb, .ref td, .int 1, .int 1])), (ta, .inl (kta, 6, .inl o_8))] := hD
      have w_13 : r_11 = at_v o_8 6 w := w_13
      have hP9 := hP.sub (ws' := []) [] rfl
      have hD9 := hD.sub (ws' := []) [] (by decide) rfl
      have hK9 := hK.sub (tys' := []) [] rfl
      exact W.iret (v := r_11) hx hb hr (fun tZ htZ hW => ⟨⟨r_11, (), rfl, (by rw [w_13]; exact bc_0 w_7 b_3), by rw [htZ]; exact hP9, va_K.moved hW.alike hK9, hD9⟩, hS.F htZ⟩) hS.2.2 dX11_bisimulationClass_32
    · exact absurd c_4 (by decide)
  · refine lv_if_ne (tgt := 13) hx hb dX11_bisimulationClass_8 (by decide) (fun c_14 => ?_) (fun c_14 => ?_)
    · exact absurd c_14 (by decide)
    · refine lv_iconst (v := (-1)) hx hb dX11_bisimulationClass_11 (by decide) ?_
      have hP9 := hP.sub (ws' := []) [] rfl
      have hD9 := hD.sub (ws' := []) [] (by decide) rfl
      have hK9 := hK.sub (tys' := []) [] rfl
      exact W.iret (v := (-1)) hx hb hr (fun tZ htZ hW => ⟨⟨(-1), (), rfl, (by unfold an_letters; first | rfl | ((repeat' split) <;> first | rfl | (exfalso; (try simp only [fa_lt, fa_le, fa_eq, ti_0, ti_1, ti_2, ti_3, ti_4, ti_5, ti_6, ti_8, ti_9, ti_10, ti_12, ti_18, ti_59, ti_60, ti_100, ti_127, ti_m1, ti_m2, ti_m3, ti_m4, ti_m5, ti_m10, ti_m11, ti_m12, ti_m13, ti_m14] at b_3); (try simp only [fa_lt, fa_le, fa_eq, ti_0, ti_1, ti_2, ti_3, ti_4, ti_5, ti_6, ti_8, ti_9, ti_10, ti_12, ti_18, ti_59, ti_60, ti_100, ti_127, ti_m1, ti_m2, ti_m3, ti_m4, ti_m5, ti_m10, ti_m11, ti_m12, ti_m13, ti_m14] at c_14); omega))), by rw [htZ]; exact hP9, va_K.moved hW.alike hK9, hD9⟩, hS.F htZ⟩) hS.2.2 dX11_bisimulationClass_12
theorem dX11_appendChar_0 : decode cX11_appendChar 0 = .ok (.iload_n 1, 1) := by decide +kernel
theorem dX11_appendChar_1 : decode cX11_appendChar 1 = .ok (.ifCond .lt 9, 3) := by decide +kernel
theorem dX11_appendChar_4 : decode cX11_appendChar 4 = .ok (.iload_n 1, 1) := by decide +kernel
theorem dX11_appendChar_5 : decode cX11_appendChar 5 = .ok (.bipush 127, 2) := by decide +kernel
theorem dX11_appendChar_7 : decode cX11_appendChar 7 = .ok (.if_icmp .le 6, 3) := by decide +kernel
theorem dX11_appendChar_10 : decode cX11_appendChar 10 = .ok (.bipush (-2), 2) := by decide +kernel
theorem dX11_appendChar_12 : decode cX11_appendChar 12 = .ok (.ireturn, 1) := by decide +kernel
theorem dX11_appendChar_13 : decode cX11_appendChar 13 = .ok (.aload_n 0, 1) := by decide +kernel
theorem dX11_appendChar_14 : decode cX11_appendChar 14 = .ok (.getfield 109, 3) := by decide +kernel
theorem dX11_appendChar_17 : decode cX11_appendChar 17 = .ok (.bipush 100, 2) := by decide +kernel
theorem dX11_appendChar_19 : decode cX11_appendChar 19 = .ok (.if_icmp .lt 6, 3) := by decide +kernel
theorem dX11_appendChar_22 : decode cX11_appendChar 22 = .ok (.bipush (-4), 2) := by decide +kernel
theorem dX11_appendChar_24 : decode cX11_appendChar 24 = .ok (.ireturn, 1) := by decide +kernel
theorem dX11_appendChar_25 : decode cX11_appendChar 25 = .ok (.aload_n 0, 1) := by decide +kernel
theorem dX11_appendChar_26 : decode cX11_appendChar 26 = .ok (.getfield 48, 3) := by decide +kernel
theorem dX11_appendChar_29 : decode cX11_appendChar 29 = .ok (.aload_n 0, 1) := by decide +kernel
theorem dX11_appendChar_30 : decode cX11_appendChar 30 = .ok (.getfield 109, 3) := by decide +kernel
theorem dX11_appendChar_33 : decode cX11_appendChar 33 = .ok (.iload_n 1, 1) := by decide +kernel
theorem dX11_appendChar_34 : decode cX11_appendChar 34 = .ok (.invokestatic 167, 3) := by decide +kernel
theorem dX11_appendChar_37 : decode cX11_appendChar 37 = .ok (.aload_n 0, 1) := by decide +kernel
theorem dX11_appendChar_38 : decode cX11_appendChar 38 = .ok (.dup, 1) := by decide +kernel
theorem dX11_appendChar_39 : decode cX11_appendChar 39 = .ok (.getfield 109, 3) := by decide +kernel
theorem dX11_appendChar_42 : decode cX11_appendChar 42 = .ok (.iconst 1, 1) := by decide +kernel
theorem dX11_appendChar_43 : decode cX11_appendChar 43 = .ok (.iadd, 1) := by decide +kernel
theorem dX11_appendChar_44 : decode cX11_appendChar 44 = .ok (.putfield 109, 3) := by decide +kernel
theorem dX11_appendChar_47 : decode cX11_appendChar 47 = .ok (.aload_n 0, 1) := by decide +kernel
theorem dX11_appendChar_48 : decode cX11_appendChar 48 = .ok (.getfield 109, 3) := by decide +kernel
theorem dX11_appendChar_51 : decode cX11_appendChar 51 = .ok (.ireturn, 1) := by decide +kernel
def wo_X11_appendChar : List Cond := [.fieldLink RX11 109 "DynamicLogicProver" "textUsed" "I", .fieldLink RX11 48 "DynamicLogicProver" "text" "[I", .methodLink RX11 167 yX11_put, .static yX11_put, .initialized RX11]
def wd_X11_appendChar : List Cond := .code yX11_appendChar cX11_appendChar 2 (some .int) :: (wo_X11_appendChar ++ (wd_X11_put ++ (wsX110 ++ ([] : List Cond))))
theorem mo_X11_appendChar {w : Cond} (i : Nat) (h : wo_X11_appendChar[i]? = some w) : w ∈ wd_X11_appendChar := List.mem_cons_of_mem _ (List.mem_append_left _ (List.mem_of_getElem? h))
theorem mb_X11_appendChar_0 : ∀ w ∈ wd_X11_put, w ∈ wd_X11_appendChar := fun w h => List.mem_cons_of_mem _ (List.mem_append_right _ (List.mem_append_left _ h))
theorem mb_X11_appendChar_1 : ∀ w ∈ wsX110, w ∈ wd_X11_appendChar := fun w h => List.mem_cons_of_mem _ (List.mem_append_right _ (List.mem_append_right _ (List.mem_append_left _ h)))
theorem hd_X11_appendChar : yX11_appendChar.cls ≠ "java/lang/invoke/MethodHandle" ∧ yX11_appendChar.cls ≠ "java/lang/invoke/VarHandle" ∧ (parseMethodDescriptor yX11_appendChar.desc).map (fun d => d.parameters.length) = some 1 := by decide +kernel
set_option maxRecDepth 20000 in
theorem gw_X11_appendChar : wd_X11_appendChar.all goodWord = true := by decide +kernel
abbrev qc_X11_appendChar (D : va_G) (x : Nat) (mo : Nat) (sm : Nat) (sc : Nat) (fo : Nat) (sf : Nat) (bu : Nat) (po : Nat) (te : Nat) (pa : Nat) (rw : Nat) (tr : Nat) (cl : Nat) (pt : Nat) (ru : Nat) (de : Nat) (kte : ClassId) (g : Int32) (A : Nat → Prop) : Array Value → State → Outcome → State → Prop := va_Qi (fun (r : Int32) (uZ : Unit) => r = an_appendChar g) (fun uZ tZ => kc_pos D A [] [] tZ) A
set_option maxHeartbeats 4000000 in
set_option maxRecDepth 100000 in
theorem ct_X11_appendChar (l : Launch) (D : va_G) (x : Nat) (mo : Nat) (sm : Nat) (sc : Nat) (fo : Nat) (sf : Nat) (bu : Nat) (po : Nat) (te : Nat) (pa : Nat) (rw : Nat) (tr : Nat) (cl : Nat) (pt : Nat) (ru : Nat) (de : Nat) (kte : ClassId) (g : Int32) (sz : Nat)  : Met l yX11_appendChar wd_X11_appendChar ({ frames := 1, cells := 0, slots := 0, locals := 22 }) (va_Pc [.ref x, .int g] (kc_pre D [(kte, .int)] [(x, .inr (11, [.ref mo, .ref sm, .ref sc, .ref fo, .ref sf, .ref bu, .ref po, .ref te, .ref pa, .ref rw, .ref tr, .ref cl, .ref pt, .ref ru, .ref de, .int 0, .int 0])), (te, .inl (kte, 100, .inl (fun _ => 0)))] sz)) (qc_X11_appendChar D x mo sm sc fo sf bu po te pa rw tr cl pt ru de kte g (va_A [(x, .inr (11, [.ref mo, .ref sm, .ref sc, .ref fo, .ref sf, .ref bu, .ref po, .ref te, .ref pa, .ref rw, .ref tr, .ref cl, .ref pt, .ref ru, .ref de, .int 0, .int 0])), (te, .inl (kte, 100, .inl (fun _ => 0)))] sz)) 0 0 (va_A [(x, .inr (11, [.ref mo, .ref sm, .ref sc, .ref fo, .ref sf, .ref bu, .ref po, .ref te, .ref pa, .ref rw, .ref tr, .ref cl, .ref pt, .ref ru, .ref de, .int 0, .int 0])), (te, .inl (kte, 100, .inl (fun _ => 0)))] sz) := by
  refine Met.ofW (cc := cX11_appendChar) (maxL := 2) (ret := (some .int)) (by decide) rfl ?_
  intro p e s m args below meth c s₁ B hml hv
  obtain ⟨rfl, hsz, hP, hK, hN, hD0⟩ := hv
  have hx := B.exec
  have hb := B.bytes
  have hr := B.returns
  have hts := atoms_spec (ws := wd_X11_appendChar) B.pre
  have hown : s.vm.findClass RX11 = some m.cls := findClass_of_methodNamed B.named
  have hlocks := B.notSynchronized
  subst hsz
  have hD := hD0.self (sz := s.heap.size)
  generalize hAe : va_A [(x, .inr (11, [.ref mo, .ref sm, .ref sc, .ref fo, .ref sf, .ref bu, .ref po, .ref te, .ref pa, .ref rw, .ref tr, .ref cl, .ref pt, .ref ru, .ref de, .int 0, .int 0])), (te, .inl (kte, 100, .inl (fun _ => 0)))] s.heap.size = A at hD ⊢
  have hA : ∀ q : Nat, s.heap.size ≤ q → A q := fun q h => by rw [← hAe]; exact Or.inr h
  have hS : va_S A s.heap s.heap [] := va_S.rf
  have hiX11 : ∀ w ∈ wsX110, w ∈ wd_X11_appendChar := mb_X11_appendChar_1
  have hl := lv_entry ([.ref x, .int g]) (n := 2) (Nat.le_of_ble_eq_true rfl)
  rw [lg_entry_eq]
  generalize (lg_sl ([.ref x, .int g]) ++ List.replicate (2 - (lg_sl ([.ref x, .int g])).length) Slot.unset).toArray = ls at hl ⊢
  have hl : lv_has ls 2 [(0, .ref x), (1, .int g)] := hl
  refine lv_iload_n hx hb dX11_appendChar_0 rfl (lv_at hl 1 rfl) ?_
  refine lv_if_lt (tgt := 10) hx hb dX11_appendChar_1 (by decide) (fun c_1 => ?_) (fun c_1 => ?_)
  · refine lv_bipush (v := (-2)) hx hb dX11_appendChar_10 (by decide) ?_
    have hP9 := hP.sub (ws' := []) [] rfl
    have hD9 := hD.sub (ws' := []) [] (by decide) rfl
    have hK9 := hK.sub (tys' := []) [] rfl
    exact W.iret (v := (-2)) hx hb hr (fun tZ htZ hW => ⟨⟨(-2), (), rfl, (by unfold an_appendChar; first | rfl | ((repeat' split) <;> first | rfl | (exfalso; (try simp only [fa_lt, fa_le, fa_eq, ti_0, ti_1, ti_2, ti_3, ti_4, ti_5, ti_6, ti_8, ti_9, ti_10, ti_12, ti_18, ti_59, ti_60, ti_100, ti_127, ti_m1, ti_m2, ti_m3, ti_m4, ti_m5, ti_m10, ti_m11, ti_m12, ti_m13, ti_m14] at c_1); omega))), by rw [htZ]; exact hP9, va_K.moved hW.alike hK9, hD9⟩, hS.F htZ⟩) hS.2.2 dX11_appendChar_12
  · refine lv_iload_n hx hb dX11_appendChar_4 rfl (lv_at hl 1 rfl) ?_
    refine lv_bipush (v := 127) hx hb dX11_appendChar_5 (by decide) ?_
    refine lv_icmp_le (tgt := 13) hx hb dX11_appendChar_7 (by decide) (fun c_2 => ?_) (fun c_2 => ?_)
    · refine lv_aload_n hx hb dX11_appendChar_13 rfl (lv_at hl 0 rfl) ?_
      refine va_get (D := D) (ci := 11) (v := .int 0) (C := RX11) (T := TX11) (N := 17) hx hb hts hiX11 hown hK hP 0 rfl rfl 15 (by decide) (hts (.fieldLink RX11 109 "DynamicLogicProver" "textUsed" "I") (mo_X11_appendChar 0 rfl)) (fun _ h9 => h9) rfl dX11_appendChar_14 ?_
      refine lv_bipush (v := 100) hx hb dX11_appendChar_17 (by decide) ?_
      refine lv_icmp_lt (tgt := 25) hx hb dX11_appendChar_19 (by decide) (fun c_3 => ?_) (fun c_3 => ?_)
      · refine lv_aload_n hx hb dX11_appendChar_25 rfl (lv_at hl 0 rfl) ?_
        refine va_get (D := D) (ci := 11) (v := .ref te) (C := RX11) (T := TX11) (N := 17) hx hb hts hiX11 hown hK hP 0 rfl rfl 7 (by decide) (hts (.fieldLink RX11 48 "DynamicLogicProver" "text" "[I") (mo_X11_appendChar 1 rfl)) (fun _ h9 => h9) rfl dX11_appendChar_26 ?_
        refine lv_aload_n hx hb dX11_appendChar_29 rfl (lv_at hl 0 rfl) ?_
        refine va_get (D := D) (ci := 11) (v := .int 0) (C := RX11) (T := TX11) (N := 17) hx hb hts hiX11 hown hK hP 0 rfl rfl 15 (by decide) (hts (.fieldLink RX11 109 "DynamicLogicProver" "textUsed" "I") (mo_X11_appendChar 0 rfl)) (fun _ h9 => h9) rfl dX11_appendChar_30 ?_
        refine lv_iload_n hx hb dX11_appendChar_33 rfl (lv_at hl 1 rfl) ?_
        refine kc_Sv (As := [.ref te, .int 0, .int g]) (rest := []) (wr := [(x, .inr (11, [.ref mo, .ref sm, .ref sc, .ref fo, .ref sf, .ref bu, .ref po, .ref te, .ref pa, .ref rw, .ref tr, .ref cl, .ref pt, .ref ru, .ref de, .int 0, .int 0]))]) ⟨hx, hb, hml, hown, hts⟩ (ct_X11_put l D te kte 100 (fun _ => 0) 0 g _ (by decide)) (va_cwS 3 hts (kg_S (mo_X11_appendChar 2 rfl) (mo_X11_appendChar 3 rfl) (mo_X11_appendChar 4 rfl) (goodIn_sub mb_X11_appendChar_0 gw_X11_put)) rfl rfl rfl hd_X11_put ⟨Nat.le_of_ble_eq_true rfl, Nat.le_of_ble_eq_true rfl⟩) hK hN hP hD hS hA [1] [0] [0] rfl rfl (by decide) (by decide) (by decide) rfl rfl hl.1 rfl (Nat.le_of_ble_eq_true rfl) dX11_appendChar_34 ⟨Nat.le_of_ble_eq_true rfl, Nat.le_of_ble_eq_true rfl⟩ (fun u_5 H locs w_6 hP hD hK1 hS => ?_)
        obtain ⟨o_7, rfl⟩ : ∃ z, z = u_5 := ⟨_, rfl⟩
        have hP : va_P D vwCl [(x, .inr (11, [.ref mo, .ref sm, .ref sc, .ref fo, .ref sf, .ref bu, .ref po, .ref te, .ref pa, .ref rw, .ref tr, .ref cl, .ref pt, .ref ru, .ref de, .int 0, .int 0])), (te, .inl (kte, 100, .inl o_7))] H := hP
        have hD : va_D A [(x, .inr (11, [.ref mo, .ref sm, .ref sc, .ref fo, .ref sf, .ref bu, .ref po, .ref te, .ref pa, .ref rw, .ref tr, .ref cl, .ref pt, .ref ru, .ref de, .int 0, .int 0])), (te, .inl (kte, 100, .inl o_7))] := hD
        have w_6 : o_7 = put_v (fun _ => 0) 100 0 g := w_6
        refine lv_aload_n hx hb dX11_appendChar_37 rfl (lv_at hl 0 rfl) ?_
        refine lv_dup hx hb dX11_appendChar_38 rfl ?_
        refine va_get (D := D) (ci := 11) (v := .int 0) (C := RX11) (T := TX11) (N := 17) hx hb hts hiX11 hown hK hP 0 rfl rfl 15 (by decide) (hts (.fieldLink RX11 109 "DynamicLogicProver" "textUsed" "I") (mo_X11_appendChar 0 rfl)) (fun _ h9 => h9) rfl dX11_appendChar_39 ?_
        refine lv_iconst (v := 1) hx hb dX11_appendChar_42 (by decide) ?_
        refine lv_iadd hx hb dX11_appendChar_43 ?_
        refine lv_topi (fun x_8 ex_8 => ?_)
        obtain rfl : x_8 = 1 := ex_8.trans (by decide)
        refine va_put (D := D) (ci := 11) (v := .int 1) (ty := .int) (C := RX11) (T := TX11) (N := 17) hx hb hts hiX11 tyX11 tyX11_ok nmX11 hown hK hP hD hS 0 rfl rfl 15 (by decide) (hts (.fieldLink RX11 109 "DynamicLogicProver" "textUsed" "I") (mo_X11_appendChar 0 rfl)) (fun _ h9 => h9) rfl (tyX11_ok 15 (by decide)) rfl rfl (Nat.le_of_ble_eq_true rfl) dX11_appendChar_44 (fun H locs hP hD hS => ?_)
        have hP : va_P D vwCl [(x, .inr (11, [.ref mo, .ref sm, .ref sc, .ref fo, .ref sf, .ref bu, .ref po, .ref te, .ref pa, .ref rw, .ref tr, .ref cl, .ref pt, .ref ru, .ref de, .int 1, .int 0])), (te, .inl (kte, 100, .inl o_7))] H := hP
        have hD : va_D A [(x, .inr (11, [.ref mo, .ref sm, .ref sc, .ref fo, .ref sf, .ref bu, .ref po, .ref te, .ref pa, .ref rw, .ref tr, .ref cl, .ref pt, .ref ru, .ref de, .int 1, .int 0])), (te, .inl (kte, 100, .inl o_7))] := hD
        refine lv_aload_n hx hb dX11_appendChar_47 rfl (lv_at hl 0 rfl) ?_
        refine va_get (D := D) (ci := 11) (v := .int 1) (C := RX11) (T := TX11) (N := 17) hx hb hts hiX11 hown hK hP 0 rfl rfl 15 (by decide) (hts (.fieldLink RX11 109 "DynamicLogicProver" "textUsed" "I") (mo_X11_appendChar 0 rfl)) (fun _ h9 => h9) rfl dX11_appendChar_48 ?_
        have hP9 := hP.sub (ws' := []) [] rfl
        have hD9 := hD.sub (ws' := []) [] (by decide) rfl
        have hK9 := hK.sub (tys' := []) [] rfl
        exact W.iret (v := 1) hx hb hr (fun tZ htZ hW => ⟨⟨1, (), rfl, (by unfold an_appendChar; first | rfl | ((repeat' split) <;> first | rfl | (exfalso; (try simp only [fa_lt, fa_le, fa_eq, ti_0, ti_1, ti_2, ti_3, ti_4, ti_5, ti_6, ti_8, ti_9, ti_10, ti_12, ti_18, ti_59, ti_60, ti_100, ti_127, ti_m1, ti_m2, ti_m3, ti_m4, ti_m5, ti_m10, ti_m11, ti_m12, ti_m13, ti_m14] at c_1); (try simp only [fa_lt, fa_le, fa_eq, ti_0, ti_1, ti_2, ti_3, ti_4, ti_5, ti_6, ti_8, ti_9, ti_10, ti_12, ti_18, ti_59, ti_60, ti_100, ti_127, ti_m1, ti_m2, ti_m3, ti_m4, ti_m5, ti_m10, ti_m11, ti_m12, ti_m13, ti_m14] at c_2); (try simp only [fa_lt, fa_le, fa_eq, ti_0, ti_1, ti_2, ti_3, ti_4, ti_5, ti_6, ti_8, ti_9, ti_10, ti_12, ti_18, ti_59, ti_60, ti_100, ti_127, ti_m1, ti_m2, ti_m3, ti_m4, ti_m5, ti_m10, ti_m11, ti_m12, ti_m13, ti_m14] at c_3); (try simp only [fa_lt, fa_le, fa_eq, ti_0, ti_1, ti_2, ti_3, ti_4, ti_5, ti_6, ti_8, ti_9, ti_10, ti_12, ti_18, ti_59, ti_60, ti_100, ti_127, ti_m1, ti_m2, ti_m3, ti_m4, ti_m5, ti_m10, ti_m11, ti_m12, ti_m13, ti_m14] at w_6); omega))), by rw [htZ]; exact hP9, va_K.moved hW.alike hK9, hD9⟩, hS.F htZ⟩) hS.2.2 dX11_appendChar_51
      · exact absurd c_3 (by decide)
    · refine lv_bipush (v := (-2)) hx hb dX11_appendChar_10 (by decide) ?_
      have hP9 := hP.sub (ws' := []) [] rfl
      have hD9 := hD.sub (ws' := []) [] (by decide) rfl
      have hK9 := hK.sub (tys' := []) [] rfl
      exact W.iret (v := (-2)) hx hb hr (fun tZ htZ hW => ⟨⟨(-2), (), rfl, (by unfold an_appendChar; first | rfl | ((repeat' split) <;> first | rfl | (exfalso; (try simp only [fa_lt, fa_le, fa_eq, ti_0, ti_1, ti_2, ti_3, ti_4, ti_5, ti_6, ti_8, ti_9, ti_10, ti_12, ti_18, ti_59, ti_60, ti_100, ti_127, ti_m1, ti_m2, ti_m3, ti_m4, ti_m5, ti_m10, ti_m11, ti_m12, ti_m13, ti_m14] at c_1); (try simp only [fa_lt, fa_le, fa_eq, ti_0, ti_1, ti_2, ti_3, ti_4, ti_5, ti_6, ti_8, ti_9, ti_10, ti_12, ti_18, ti_59, ti_60, ti_100, ti_127, ti_m1, ti_m2, ti_m3, ti_m4, ti_m5, ti_m10, ti_m11, ti_m12, ti_m13, ti_m14] at c_2); omega))), by rw [htZ]; exact hP9, va_K.moved hW.alike hK9, hD9⟩, hS.F htZ⟩) hS.2.2 dX11_appendChar_12
theorem dX11_parseFormula_0 : decode cX11_parseFormula 0 = .ok (.aload_n 0, 1) := by decide +kernel
theorem dX11_parseFormula_1 : decode cX11_parseFormula 1 = .ok (.getfield 27, 3) := by decide +kernel
theorem dX11_parseFormula_4 : decode cX11_parseFormula 4 = .ok (.invokevirtual 171, 3) := by decide +kernel
theorem dX11_parseFormula_7 : decode cX11_parseFormula 7 = .ok (.ifCond .eq 6, 3) := by decide +kernel
theorem dX11_parseFormula_10 : decode cX11_parseFormula 10 = .ok (.bipush (-4), 2) := by decide +kernel
theorem dX11_parseFormula_12 : decode cX11_parseFormula 12 = .ok (.ireturn, 1) := by decide +kernel
theorem dX11_parseFormula_13 : decode cX11_parseFormula 13 = .ok (.aload_n 0, 1) := by decide +kernel
theorem dX11_parseFormula_14 : decode cX11_parseFormula 14 = .ok (.getfield 44, 3) := by decide +kernel
theorem dX11_parseFormula_17 : decode cX11_parseFormula 17 = .ok (.invokevirtual 175, 3) := by decide +kernel
theorem dX11_parseFormula_20 : decode cX11_parseFormula 20 = .ok (.aload_n 0, 1) := by decide +kernel
theorem dX11_parseFormula_21 : decode cX11_parseFormula 21 = .ok (.getfield 57, 3) := by decide +kernel
theorem dX11_parseFormula_24 : decode cX11_parseFormula 24 = .ok (.aload_n 0, 1) := by decide +kernel
theorem dX11_parseFormula_25 : decode cX11_parseFormula 25 = .ok (.getfield 109, 3) := by decide +kernel
theorem dX11_parseFormula_28 : decode cX11_parseFormula 28 = .ok (.invokevirtual 178, 3) := by decide +kernel
theorem dX11_parseFormula_31 : decode cX11_parseFormula 31 = .ok (.istore_n 1, 1) := by decide +kernel
theorem dX11_parseFormula_32 : decode cX11_parseFormula 32 = .ok (.aload_n 0, 1) := by decide +kernel
theorem dX11_parseFormula_33 : decode cX11_parseFormula 33 = .ok (.iconst 0, 1) := by decide +kernel
theorem dX11_parseFormula_34 : decode cX11_parseFormula 34 = .ok (.putfield 109, 3) := by decide +kernel
theorem dX11_parseFormula_37 : decode cX11_parseFormula 37 = .ok (.aload_n 0, 1) := by decide +kernel
theorem dX11_parseFormula_38 : decode cX11_parseFormula 38 = .ok (.getfield 57, 3) := by decide +kernel
theorem dX11_parseFormula_41 : decode cX11_parseFormula 41 = .ok (.invokevirtual 181, 3) := by decide +kernel
theorem dX11_parseFormula_44 : decode cX11_parseFormula 44 = .ok (.iconst (-1), 1) := by decide +kernel
theorem dX11_parseFormula_45 : decode cX11_parseFormula 45 = .ok (.if_icmp .eq 14, 3) := by decide +kernel
theorem dX11_parseFormula_48 : decode cX11_parseFormula 48 = .ok (.bipush (-10), 2) := by decide +kernel
theorem dX11_parseFormula_50 : decode cX11_parseFormula 50 = .ok (.aload_n 0, 1) := by decide +kernel
theorem dX11_parseFormula_51 : decode cX11_parseFormula 51 = .ok (.getfield 57, 3) := by decide +kernel
theorem dX11_parseFormula_54 : decode cX11_parseFormula 54 = .ok (.invokevirtual 181, 3) := by decide +kernel
theorem dX11_parseFormula_57 : decode cX11_parseFormula 57 = .ok (.isub, 1) := by decide +kernel
theorem dX11_parseFormula_58 : decode cX11_parseFormula 58 = .ok (.ireturn, 1) := by decide +kernel
theorem dX11_parseFormula_59 : decode cX11_parseFormula 59 = .ok (.aload_n 0, 1) := by decide +kernel
theorem dX11_parseFormula_60 : decode cX11_parseFormula 60 = .ok (.getfield 44, 3) := by decide +kernel
theorem dX11_parseFormula_63 : decode cX11_parseFormula 63 = .ok (.iload_n 1, 1) := by decide +kernel
theorem dX11_parseFormula_64 : decode cX11_parseFormula 64 = .ok (.invokevirtual 184, 3) := by decide +kernel
theorem dX11_parseFormula_67 : decode cX11_parseFormula 67 = .ok (.iconst 3, 1) := by decide +kernel
theorem dX11_parseFormula_68 : decode cX11_parseFormula 68 = .ok (.if_icmp .le 8, 3) := by decide +kernel
theorem dX11_parseFormula_71 : decode cX11_parseFormula 71 = .ok (.bipush (-5), 2) := by decide +kernel
theorem dX11_parseFormula_73 : decode cX11_parseFormula 73 = .ok (.goto 8, 3) := by decide +kernel
theorem dX11_parseFormula_76 : decode cX11_parseFormula 76 = .ok (.aload_n 0, 1) := by decide +kernel
theorem dX11_parseFormula_77 : decode cX11_parseFormula 77 = .ok (.iload_n 1, 1) := by decide +kernel
theorem dX11_parseFormula_78 : decode cX11_parseFormula 78 = .ok (.invokevirtual 187, 3) := by decide +kernel
theorem dX11_parseFormula_81 : decode cX11_parseFormula 81 = .ok (.ireturn, 1) := by decide +kernel
def wo_X11_parseFormula : List Cond := [.fieldLink RX11 27 "DynamicLogicProver" "formulas" "LDynamicLogicProver$Shelf;", .methodLink RX11 171 yX9_isFull, .instanceMethod yX9_isFull, .selects RX9 yX9_isFull yX9_isFull, .initialized RX9, .fieldLink RX11 44 "DynamicLogicProver" "pool" "LDynamicLogicProver$Pool;", .methodLink RX11 175 yX6_clear, .instanceMethod yX6_clear, .selects RX6 yX6_clear yX6_clear, .initialized RX6, .fieldLink RX11 57 "DynamicLogicProver" "parser" "LDynamicLogicProver$Parser;", .fieldLink RX11 109 "DynamicLogicProver" "textUsed" "I", .methodLink RX11 178 yX4_parse, .instanceMethod yX4_parse, .selects RX4 yX4_parse yX4_parse, .initialized RX4, .methodLink RX11 181 yX4_fault, .instanceMethod yX4_fault, .selects RX4 yX4_fault yX4_fault]
def wd_X11_parseFormula : List Cond := .code yX11_parseFormula cX11_parseFormula 2 (some .int) :: (wo_X11_parseFormula ++ (wd_X9_isFull0 ++ (wd_X6_clear ++ (wd_X4_parseA ++ (wd_X4_fault0 ++ (wsX110 ++ ([] : List Cond)))))))
theorem mo_X11_parseFormula {w : Cond} (i : Nat) (h : wo_X11_parseFormula[i]? = some w) : w ∈ wd_X11_parseFormula := List.mem_cons_of_mem _ (List.mem_append_left _ (List.mem_of_getElem? h))
theorem mb_X11_parseFormula_0 : ∀ w ∈ wd_X9_isFull0, w ∈ wd_X11_parseFormula := fun w h => List.mem_cons_of_mem _ (List.mem_append_right _ (List.mem_append_left _ h))
theorem mb_X11_parseFormula_1 : ∀ w ∈ wd_X6_clear, w ∈ wd_X11_parseFormula := fun w h => List.mem_cons_of_mem _ (List.mem_append_right _ (List.mem_append_right _ (List.mem_append_left _ h)))
theorem mb_X11_parseFormula_2 : ∀ w ∈ wd_X4_parseA, w ∈ wd_X11_parseFormula := fun w h => List.mem_cons_of_mem _ (List.mem_append_right _ (List.mem_append_right _ (List.mem_append_right _ (List.mem_append_left _ h))))
theorem mb_X11_parseFormula_3 : ∀ w ∈ wd_X4_fault0, w ∈ wd_X11_parseFormula := fun w h => List.mem_cons_of_mem _ (List.mem_append_right _ (List.mem_append_right _ (List.mem_append_right _ (List.mem_append_right _ (List.mem_append_left _ h)))))
theorem mb_X11_parseFormula_4 : ∀ w ∈ wsX110, w ∈ wd_X11_parseFormula := fun w h => List.mem_cons_of_mem _ (List.mem_append_right _ (List.mem_append_right _ (List.mem_append_right _ (List.mem_append_right _ (List.mem_append_right _ (List.mem_append_left _ h))))))
theorem hd_X11_parseFormula : yX11_parseFormula.cls ≠ "java/lang/invoke/MethodHandle" ∧ yX11_parseFormula.cls ≠ "java/lang/invoke/VarHandle" ∧ (parseMethodDescriptor yX11_parseFormula.desc).map (fun d => d.parameters.length) = some 0 := by decide +kernel
set_option maxRecDepth 20000 in
theorem gw_X11_parseFormula : wd_X11_parseFormula.all goodWord = true := by decide +kernel
abbrev qc_X11_parseFormula (D : va_G) (x : Nat) (mo : Nat) (sm : Nat) (sc : Nat) (fo : Nat) (sf : Nat) (bu : Nat) (po : Nat) (te : Nat) (pa : Nat) (rw : Nat) (tr : Nat) (cl : Nat) (pt : Nat) (ru : Nat) (de : Nat) (fa : Nat) (fb : Nat) (fd : Nat) (p1 : Nat) (p2 : Nat) (p3 : Nat) (p4 : Nat) (p5 : Nat) (p6 : Nat) (p7 : Nat) (p8 : Nat) (p9 : Nat) (pA : Nat) (pB : Nat) (kp8 : ClassId) (fp8 : Nat → Int32) (op : Nat) (kop : ClassId) (A : Nat → Prop) : Array Value → State → Outcome → State → Prop := va_Qi (fun (r : Int32) (uZ : Unit) => r = (-10)) (fun uZ tZ => kc_pos D A [] [] tZ) A
set_option maxHeartbeats 4000000 in
set_option maxRecDepth 100000 in
theorem ct_X11_parseFormula (l : Launch) (D : va_G) (x : Nat) (mo : Nat) (sm : Nat) (sc : Nat) (fo : Nat) (sf : Nat) (bu : Nat) (po : Nat) (te : Nat) (pa : Nat) (rw : Nat) (tr : Nat) (cl : Nat) (pt : Nat) (ru : Nat) (de : Nat) (fa : Nat) (fb : Nat) (fd : Nat) (p1 : Nat) (p2 : Nat) (p3 : Nat) (p4 : Nat) (p5 : Nat) (p6 : Nat) (p7 : Nat) (p8 : Nat) (p9 : Nat) (pA : Nat) (pB : Nat) (kp8 : ClassId) (fp8 : Nat → Int32) (op : Nat) (kop : ClassId) (sz : Nat)  : Met l yX11_parseFormula wd_X11_parseFormula ({ frames := 6, cells := 0, slots := 0, locals := 132 }) (va_Pc [.ref x] (kc_pre D [(kp8, .int), (kop, .int)] [(x, .inr (11, [.ref mo, .ref sm, .ref sc, .ref fo, .ref sf, .ref bu, .ref po, .ref te, .ref pa, .ref rw, .ref tr, .ref cl, .ref pt, .ref ru, .ref de, .int 0, .int 0])), (fo, .inr (9, [.ref fa, .ref fb, .ref fd, .int 0])), (po, .inr (6, [.ref p1, .ref p2, .ref p3, .ref p4, .ref p5, .ref p6, .ref p7, .ref p8, .ref p9, .ref pA, .ref pB, .int 0])), (p8, .inl (kp8, 256, .inl fp8)), (pa, .inr (4, [.ref po, .ref te, .ref op, .int 0, .int 0, .int 0, .int 0, .int (-1)])), (op, .inl (kop, 101, .inl (fun _ => 0)))] sz)) (qc_X11_parseFormula D x mo sm sc fo sf bu po te pa rw tr cl pt ru de fa fb fd p1 p2 p3 p4 p5 p6 p7 p8 p9 pA pB kp8 fp8 op kop (va_A [(x, .inr (11, [.ref mo, .ref sm, .ref sc, .ref fo, .ref sf, .ref bu, .ref po, .ref te, .ref pa, .ref rw, .ref tr, .ref cl, .ref pt, .ref ru, .ref de, .int 0, .int 0])), (fo, .inr (9, [.ref fa, .ref fb, .ref fd, .int 0])), (po, .inr (6, [.ref p1, .ref p2, .ref p3, .ref p4, .ref p5, .ref p6, .ref p7, .ref p8, .ref p9, .ref pA, .ref pB, .int 0])), (p8, .inl (kp8, 256, .inl fp8)), (pa, .inr (4, [.ref po, .ref te, .ref op, .int 0, .int 0, .int 0, .int 0, .int (-1)])), (op, .inl (kop, 101, .inl (fun _ => 0)))] sz)) 0 0 (va_A [(x, .inr (11, [.ref mo, .ref sm, .ref sc, .ref fo, .ref sf, .ref bu, .ref po, .ref te, .ref pa, .ref rw, .ref tr, .ref cl, .ref pt, .ref ru, .ref de, .int 0, .int 0])), (fo, .inr (9, [.ref fa, .ref fb, .ref fd, .int 0])), (po, .inr (6, [.ref p1, .ref p2, .ref p3, .ref p4, .ref p5, .ref p6, .ref p7, .ref p8, .ref p9, .ref pA, .ref pB, .int 0])), (p8, .inl (kp8, 256, .inl fp8)), (pa, .inr (4, [.ref po, .ref te, .ref op, .int 0, .int 0, .int 0, .int 0, .int (-1)])), (op, .inl (kop, 101, .inl (fun _ => 0)))] sz) := by
  refine Met.ofW (cc := cX11_parseFormula) (maxL := 2) (ret := (some .int)) (by decide) rfl ?_
  intro p e s m args below meth c s₁ B hml hv
  obtain ⟨rfl, hsz, hP, hK, hN, hD0⟩ := hv
  have hx := B.exec
  have hb := B.bytes
  have hr := B.returns
  have hts := atoms_spec (ws := wd_X11_parseFormula) B.pre
  have hown : s.vm.findClass RX11 = some m.cls := findClass_of_methodNamed B.named
  have hlocks := B.notSynchronized
  subst hsz
  have hD := hD0.self (sz := s.heap.size)
  generalize hAe : va_A [(x, .inr (11, [.ref mo, .ref sm, .ref sc, .ref fo, .ref sf, .ref bu, .ref po, .ref te, .ref pa, .ref rw, .ref tr, .ref cl, .ref pt, .ref ru, .ref de, .int 0, .int 0])), (fo, .inr (9, [.ref fa, .ref fb, .ref fd, .int 0])), (po, .inr (6, [.ref p1, .ref p2, .ref p3, .ref p4, .ref p5, .ref p6, .ref p7, .ref p8, .ref p9, .ref pA, .ref pB, .int 0])), (p8, .inl (kp8, 256, .inl fp8)), (pa, .inr (4, [.ref po, .ref te, .ref op, .int 0, .int 0, .int 0, .int 0, .int (-1)])), (op, .inl (kop, 101, .inl (fun _ => 0)))] s.heap.size = A at hD ⊢
  have hA : ∀ q : Nat, s.heap.size ≤ q → A q := fun q h => by rw [← hAe]; exact Or.inr h
  have hS : va_S A s.heap s.heap [] := va_S.rf
  have hiX11 : ∀ w ∈ wsX110, w ∈ wd_X11_parseFormula := mb_X11_parseFormula_4
  have hl := lv_entry ([.ref x]) (n := 2) (Nat.le_of_ble_eq_true rfl)
  rw [lg_entry_eq]
  generalize (lg_sl ([.ref x]) ++ List.replicate (2 - (lg_sl ([.ref x])).length) Slot.unset).toArray = ls at hl ⊢
  have hl : lv_has ls 2 [(0, .ref x)] := hl
  refine lv_aload_n hx hb dX11_parseFormula_0 rfl (lv_at hl 0 rfl) ?_
  refine va_get (D := D) (ci := 11) (v := .ref fo) (C := RX11) (T := TX11) (N := 17) hx hb hts hiX11 hown hK hP 0 rfl rfl 3 (by decide) (hts (.fieldLink RX11 27 "DynamicLogicProver" "formulas" "LDynamicLogicProver$Shelf;") (mo_X11_parseFormula 0 rfl)) (fun _ h9 => h9) rfl dX11_parseFormula_1 ?_
  refine kc_Vi (As := []) (rest := []) (wr := [(x, .inr (11, [.ref mo, .ref sm, .ref sc, .ref fo, .ref sf, .ref bu, .ref po, .ref te, .ref pa, .ref rw, .ref tr, .ref cl, .ref pt, .ref ru, .ref de, .int 0, .int 0])), (po, .inr (6, [.ref p1, .ref p2, .ref p3, .ref p4, .ref p5, .ref p6, .ref p7, .ref p8, .ref p9, .ref pA, .ref pB, .int 0])), (p8, .inl (kp8, 256, .inl fp8)), (pa, .inr (4, [.ref po, .ref te, .ref op, .int 0, .int 0, .int 0, .int 0, .int (-1)])), (op, .inl (kop, 101, .inl (fun _ => 0)))]) ⟨hx, hb, hml, hown, hts⟩ (ct_X9_isFull0 l D fo fa fb fd _ ) (cwV 0 hts (kg_V (mo_X11_parseFormula 1 rfl) (mo_X11_parseFormula 2 rfl) (mo_X11_parseFormula 3 rfl) (mo_X11_parseFormula 4 rfl) (goodIn_sub mb_X11_parseFormula_0 gw_X9_isFull0)) rfl rfl rfl ⟨rfl, hd_X9_isFull⟩ ⟨Nat.le_of_ble_eq_true rfl, Nat.le_of_ble_eq_true rfl⟩) (RX9, TX9, 4) 9 1 rfl rfl rfl hK hN hP hD hS hA [1] [0, 2, 3, 4, 5] [] rfl rfl (by decide) (by decide) (by decide) rfl rfl hl.1 rfl (Nat.le_of_ble_eq_true rfl) dX11_parseFormula_4 ⟨Nat.le_of_ble_eq_true rfl, Nat.le_of_ble_eq_true rfl⟩ (fun r_1 u_2 H locs w_3 hP hD hK1 hS => ?_)
  have hP : va_P D vwCl [(x, .inr (11, [.ref mo, .ref sm, .ref sc, .ref fo, .ref sf, .ref bu, .ref po, .ref te, .ref pa, .ref rw, .ref tr, .ref cl, .ref pt, .ref ru, .ref de, .int 0, .int 0])), (po, .inr (6, [.ref p1, .ref p2, .ref p3, .ref p4, .ref p5, .ref p6, .ref p7, .ref p8, .ref p9, .ref pA, .ref pB, .int 0])), (p8, .inl (kp8, 256, .inl fp8)), (pa, .inr (4, [.ref po, .ref te, .ref op, .int 0, .int 0, .int 0, .int 0, .int (-1)])), (op, .inl (kop, 101, .inl (fun _ => 0))), (fo, .inr (9, [.ref fa, .ref fb, .ref fd, .int 0]))] H := hP
  have hD : va_D A [(x, .inr (11, [.ref mo, .ref sm, .ref sc, .ref fo, .ref sf, .ref bu, .ref po, .ref te, .ref pa, .ref rw, .ref tr, .ref cl, .ref pt, .ref ru, .ref de, .int 0, .int 0])), (po, .inr (6, [.ref p1, .ref p2, .ref p3, .ref p4, .ref p5, .ref p6, .ref p7, .ref p8, .ref p9, .ref pA, .ref pB, .int 0])), (p8, .inl (kp8, 256, .inl fp8)), (pa, .inr (4, [.ref po, .ref te, .ref op, .int 0, .int 0, .int 0, .int 0, .int (-1)])), (op, .inl (kop, 101, .inl (fun _ => 0))), (fo, .inr (9, [.ref fa, .ref fb, .ref fd, .int 0]))] := hD
  have w_3 : r_1 = 0 := w_3
  subst w_3
  refine lv_if_eq (tgt := 13) hx hb dX11_parseFormula_7 (by decide) (fun c_4 => ?_) (fun c_4 => ?_)
  · refine lv_aload_n hx hb dX11_parseFormula_13 rfl (lv_at hl 0 rfl) ?_
    refine va_get (D := D) (ci := 11) (v := .ref po) (C := RX11) (T := TX11) (N := 17) hx hb hts hiX11 hown hK hP 0 rfl rfl 6 (by decide) (hts (.fieldLink RX11 44 "DynamicLogicProver" "pool" "LDynamicLogicProver$Pool;") (mo_X11_parseFormula 5 rfl)) (fun _ h9 => h9) rfl dX11_parseFormula_14 ?_
    refine kc_Vv (As := []) (rest := []) (wr := [(x, .inr (11, [.ref mo, .ref sm, .ref sc, .ref fo, .ref sf, .ref bu, .ref po, .ref te, .ref pa, .ref rw, .ref tr, .ref cl, .ref pt, .ref ru, .ref de, .int 0, .int 0])), (pa, .inr (4, [.ref po, .ref te, .ref op, .int 0, .int 0, .int 0, .int 0, .int (-1)])), (op, .inl (kop, 101, .inl (fun _ => 0))), (fo, .inr (9, [.ref fa, .ref fb, .ref fd, .int 0]))]) ⟨hx, hb, hml, hown, hts⟩ (ct_X6_clear l D po p1 p2 p3 p4 p5 p6 p7 p8 p9 pA pB kp8 fp8 0 _ ) (cwV 0 hts (kg_V (mo_X11_parseFormula 6 rfl) (mo_X11_parseFormula 7 rfl) (mo_X11_parseFormula 8 rfl) (mo_X11_parseFormula 9 rfl) (goodIn_sub mb_X11_parseFormula_1 gw_X6_clear)) rfl rfl rfl ⟨rfl, hd_X6_clear⟩ ⟨Nat.le_of_ble_eq_true rfl, Nat.le_of_ble_eq_true rfl⟩) (RX6, TX6, 12) 6 1 rfl rfl rfl hK hN hP hD hS hA [1, 2] [0, 3, 4, 5] [0] rfl rfl (by decide) (by decide) (by decide) rfl rfl hl.1 rfl (Nat.le_of_ble_eq_true rfl) dX11_parseFormula_17 ⟨Nat.le_of_ble_eq_true rfl, Nat.le_of_ble_eq_true rfl⟩ (fun u_6 H locs w_7 hP hD hK1 hS => ?_)
    obtain ⟨o_8, rfl⟩ : ∃ z, z = u_6 := ⟨_, rfl⟩
    have hP : va_P D vwCl [(x, .inr (11, [.ref mo, .ref sm, .ref sc, .ref fo, .ref sf, .ref bu, .ref po, .ref te, .ref pa, .ref rw, .ref tr, .ref cl, .ref pt, .ref ru, .ref de, .int 0, .int 0])), (pa, .inr (4, [.ref po, .ref te, .ref op, .int 0, .int 0, .int 0, .int 0, .int (-1)])), (op, .inl (kop, 101, .inl (fun _ => 0))), (fo, .inr (9, [.ref fa, .ref fb, .ref fd, .int 0])), (po, .inr (6, [.ref p1, .ref p2, .ref p3, .ref p4, .ref p5, .ref p6, .ref p7, .ref p8, .ref p9, .ref pA, .ref pB, .int 0])), (p8, .inl (kp8, 256, .inl o_8))] H := hP
    have hD : va_D A [(x, .inr (11, [.ref mo, .ref sm, .ref sc, .ref fo, .ref sf, .ref bu, .ref po, .ref te, .ref pa, .ref rw, .ref tr, .ref cl, .ref pt, .ref ru, .ref de, .int 0, .int 0])), (pa, .inr (4, [.ref po, .ref te, .ref op, .int 0, .int 0, .int 0, .int 0, .int (-1)])), (op, .inl (kop, 101, .inl (fun _ => 0))), (fo, .inr (9, [.ref fa, .ref fb, .ref fd, .int 0])), (po, .inr (6, [.ref p1, .ref p2, .ref p3, .ref p4, .ref p5, .ref p6, .ref p7, .ref p8, .ref p9, .ref pA, .ref pB, .int 0])), (p8, .inl (kp8, 256, .inl o_8))] := hD
    refine lv_aload_n hx hb dX11_parseFormula_20 rfl (lv_at hl 0 rfl) ?_
    refine va_get (D := D) (ci := 11) (v := .ref pa) (C := RX11) (T := TX11) (N := 17) hx hb hts hiX11 hown hK hP 0 rfl rfl 8 (by decide) (hts (.fieldLink RX11 57 "DynamicLogicProver" "parser" "LDynamicLogicProver$Parser;") (mo_X11_parseFormula 10 rfl)) (fun _ h9 => h9) rfl dX11_parseFormula_21 ?_
    refine lv_aload_n hx hb dX11_parseFormula_24 rfl (lv_at hl 0 rfl) ?_
    refine va_get (D := D) (ci := 11) (v := .int 0) (C := RX11) (T := TX11) (N := 17) hx hb hts hiX11 hown hK hP 0 rfl rfl 15 (by decide) (hts (.fieldLink RX11 109 "DynamicLogicProver" "textUsed" "I") (mo_X11_parseFormula 11 rfl)) (fun _ h9 => h9) rfl dX11_parseFormula_25 ?_
    refine kc_Vi (As := [.int 0]) (rest := []) (wr := [(x, .inr (11, [.ref mo, .ref sm, .ref sc, .ref fo, .ref sf, .ref bu, .ref po, .ref te, .ref pa, .ref rw, .ref tr, .ref cl, .ref pt, .ref ru, .ref de, .int 0, .int 0])), (fo, .inr (9, [.ref fa, .ref fb, .ref fd, .int 0])), (po, .inr (6, [.ref p1, .ref p2, .ref p3, .ref p4, .ref p5, .ref p6, .ref p7, .ref p8, .ref p9, .ref pA, .ref pB, .int 0])), (p8, .inl (kp8, 256, .inl o_8))]) ⟨hx, hb, hml, hown, hts⟩ (ct_X4_parseA l D pa po te op kop (fun _ => 0) _ ) (cwV 1 hts (kg_V (mo_X11_parseFormula 12 rfl) (mo_X11_parseFormula 13 rfl) (mo_X11_parseFormula 14 rfl) (mo_X11_parseFormula 15 rfl) (goodIn_sub mb_X11_parseFormula_2 gw_X4_parseA)) rfl rfl rfl ⟨rfl, hd_X4_parse⟩ ⟨Nat.le_of_ble_eq_true rfl, Nat.le_of_ble_eq_true rfl⟩) (RX4, TX4, 8) 4 1 rfl rfl rfl hK hN hP hD hS hA [1, 2] [0, 3, 4, 5] [1] rfl rfl (by decide) (by decide) (by decide) rfl rfl hl.1 rfl (Nat.le_of_ble_eq_true rfl) dX11_parseFormula_28 ⟨Nat.le_of_ble_eq_true rfl, Nat.le_of_ble_eq_true rfl⟩ (fun r_9 u_10 H locs w_11 hP hD hK1 hS => ?_)
    obtain ⟨o_12, rfl⟩ : ∃ z, z = u_10 := ⟨_, rfl⟩
    have hP : va_P D vwCl [(x, .inr (11, [.ref mo, .ref sm, .ref sc, .ref fo, .ref sf, .ref bu, .ref po, .ref te, .ref pa, .ref rw, .ref tr, .ref cl, .ref pt, .ref ru, .ref de, .int 0, .int 0])), (fo, .inr (9, [.ref fa, .ref fb, .ref fd, .int 0])), (po, .inr (6, [.ref p1, .ref p2, .ref p3, .ref p4, .ref p5, .ref p6, .ref p7, .ref p8, .ref p9, .ref pA, .ref pB, .int 0])), (p8, .inl (kp8, 256, .inl o_8)), (pa, .inr (4, [.ref po, .ref te, .ref op, .int 0, .int 0, .int 0, .int 0, .int 0])), (op, .inl (kop, 101, .inl o_12))] H := hP
    have hD : va_D A [(x, .inr (11, [.ref mo, .ref sm, .ref sc, .ref fo, .ref sf, .ref bu, .ref po, .ref te, .ref pa, .ref rw, .ref tr, .ref cl, .ref pt, .ref ru, .ref de, .int 0, .int 0])), (fo, .inr (9, [.ref fa, .ref fb, .ref fd, .int 0])), (po, .inr (6, [.ref p1, .ref p2, .ref p3, .ref p4, .ref p5, .ref p6, .ref p7, .ref p8, .ref p9, .ref pA, .ref pB, .int 0])), (p8, .inl (kp8, 256, .inl o_8)), (pa, .inr (4, [.ref po, .ref te, .ref op, .int 0, .int 0, .int 0, .int 0, .int 0])), (op, .inl (kop, 101, .inl o_12))] := hD
    refine lv_istore_n (lv' := [(1, .int r_9), (0, .ref x)]) hx hb dX11_parseFormula_31 rfl hl (by decide) rfl (fun ls hl => ?_)
    refine lv_aload_n hx hb dX11_parseFormula_32 rfl (lv_at hl 1 rfl) ?_
    refine lv_iconst (v := 0) hx hb dX11_parseFormula_33 (by decide) ?_
    refine va_put (D := D) (ci := 11) (v := .int 0) (ty := .int) (C := RX11) (T := TX11) (N := 17) hx hb hts hiX11 tyX11 tyX11_ok nmX11 hown hK hP hD hS 0 rfl rfl 15 (by decide) (hts (.fieldLink RX11 109 "DynamicLogicProver" "textUsed" "I") (mo_X11_parseFormula 11 rfl)) (fun _ h9 => h9) rfl (tyX11_ok 15 (by decide)) rfl rfl (Nat.le_of_ble_eq_true rfl) dX11_parseFormula_34 (fun H locs hP hD hS => ?_)
    have hP : va_P D vwCl [(x, .inr (11, [.ref mo, .ref sm, .ref sc, .ref fo, .ref sf, .ref bu, .ref po, .ref te, .ref pa, .ref rw, .ref tr, .ref cl, .ref pt, .ref ru, .ref de, .int 0, .int 0])), (fo, .inr (9, [.ref fa, .ref fb, .ref fd, .int 0])), (po, .inr (6, [.ref p1, .ref p2, .ref p3, .ref p4, .ref p5, .ref p6, .ref p7, .ref p8, .ref p9, .ref pA, .ref pB, .int 0])), (p8, .inl (kp8, 256, .inl o_8)), (pa, .inr (4, [.ref po, .ref te, .ref op, .int 0, .int 0, .int 0, .int 0, .int 0])), (op, .inl (kop, 101, .inl o_12))] H := hP
    have hD : va_D A [(x, .inr (11, [.ref mo, .ref sm, .ref sc, .ref fo, .ref sf, .ref bu, .ref po, .ref te, .ref pa, .ref rw, .ref tr, .ref cl, .ref pt, .ref ru, .ref de, .int 0, .int 0])), (fo, .inr (9, [.ref fa, .ref fb, .ref fd, .int 0])), (po, .inr (6, [.ref p1, .ref p2, .ref p3, .ref p4, .ref p5, .ref p6, .ref p7, .ref p8, .ref p9, .ref pA, .ref pB, .int 0])), (p8, .inl (kp8, 256, .inl o_8)), (pa, .inr (4, [.ref po, .ref te, .ref op, .int 0, .int 0, .int 0, .int 0, .int 0])), (op, .inl (kop, 101, .inl o_12))] := hD
    refine lv_aload_n hx hb dX11_parseFormula_37 rfl (lv_at hl 1 rfl) ?_
    refine va_get (D := D) (ci := 11) (v := .ref pa) (C := RX11) (T := TX11) (N := 17) hx hb hts hiX11 hown hK hP 0 rfl rfl 8 (by decide) (hts (.fieldLink RX11 57 "DynamicLogicProver" "parser" "LDynamicLogicProver$Parser;") (mo_X11_parseFormula 10 rfl)) (fun _ h9 => h9) rfl dX11_parseFormula_38 ?_
    refine kc_Vi (As := []) (rest := []) (wr := [(x, .inr (11, [.ref mo, .ref sm, .ref sc, .ref fo, .ref sf, .ref bu, .ref po, .ref te, .ref pa, .ref rw, .ref tr, .ref cl, .ref pt, .ref ru, .ref de, .int 0, .int 0])), (fo, .inr (9, [.ref fa, .ref fb, .ref fd, .int 0])), (po, .inr (6, [.ref p1, .ref p2, .ref p3, .ref p4, .ref p5, .ref p6, .ref p7, .ref p8, .ref p9, .ref pA, .ref pB, .int 0])), (p8, .inl (kp8, 256, .inl o_8)), (op, .inl (kop, 101, .inl o_12))]) ⟨hx, hb, hml, hown, hts⟩ (ct_X4_fault0 l D pa po te op _ ) (cwV 0 hts (kg_V (mo_X11_parseFormula 16 rfl) (mo_X11_parseFormula 17 rfl) (mo_X11_parseFormula 18 rfl) (mo_X11_parseFormula 15 rfl) (goodIn_sub mb_X11_parseFormula_3 gw_X4_fault0)) rfl rfl rfl ⟨rfl, hd_X4_fault⟩ ⟨Nat.le_of_ble_eq_true rfl, Nat.le_of_ble_eq_true rfl⟩) (RX4, TX4, 8) 4 4 rfl rfl rfl hK hN hP hD hS hA [4] [0, 1, 2, 3, 5] [] rfl rfl (by decide) (by decide) (by decide) rfl rfl hl.1 rfl (Nat.le_of_ble_eq_true rfl) dX11_parseFormula_41 ⟨Nat.le_of_ble_eq_true rfl, Nat.le_of_ble_eq_true rfl⟩ (fun r_13 u_14 H locs w_15 hP hD hK1 hS => ?_)
    have hP : va_P D vwCl [(x, .inr (11, [.ref mo, .ref sm, .ref sc, .ref fo, .ref sf, .ref bu, .ref po, .ref te, .ref pa, .ref rw, .ref tr, .ref cl, .ref pt, .ref ru, .ref de, .int 0, .int 0])), (fo, .inr (9, [.ref fa, .ref fb, .ref fd, .int 0])), (po, .inr (6, [.ref p1, .ref p2, .ref p3, .ref p4, .ref p5, .ref p6, .ref p7, .ref p8, .ref p9, .ref pA, .ref pB, .int 0])), (p8, .inl (kp8, 256, .inl o_8)), (op, .inl (kop, 101, .inl o_12)), (pa, .inr (4, [.ref po, .ref te, .ref op, .int 0, .int 0, .int 0, .int 0, .int 0]))] H := hP
    have hD : va_D A [(x, .inr (11, [.ref mo, .ref sm, .ref sc, .ref fo, .ref sf, .ref bu, .ref po, .ref te, .ref pa, .ref rw, .ref tr, .ref cl, .ref pt, .ref ru, .ref de, .int 0, .int 0])), (fo, .inr (9, [.ref fa, .ref fb, .ref fd, .int 0])), (po, .inr (6, [.ref p1, .ref p2, .ref p3, .ref p4, .ref p5, .ref p6, .ref p7, .ref p8, .ref p9, .ref pA, .ref pB, .int 0])), (p8, .inl (kp8, 256, .inl o_8)), (op, .inl (kop, 101, .inl o_12)), (pa, .inr (4, [.ref po, .ref te, .ref op, .int 0, .int 0, .int 0, .int 0, .int 0]))] := hD
    have w_15 : r_13 = 0 := w_15
    subst w_15
    refine lv_iconst (v := (-1)) hx hb dX11_parseFormula_44 (by decide) ?_
    refine lv_icmp_eq (tgt := 59) hx hb dX11_parseFormula_45 (by decide) (fun c_16 => ?_) (fun c_16 => ?_)
    · exact absurd c_16 (by decide)
    · refine lv_bipush (v := (-10)) hx hb dX11_parseFormula_48 (by decide) ?_
      refine lv_aload_n hx hb dX11_parseFormula_50 rfl (lv_at hl 1 rfl) ?_
      refine va_get (D := D) (ci := 11) (v := .ref pa) (C := RX11) (T := TX11) (N := 17) hx hb hts hiX11 hown hK hP 0 rfl rfl 8 (by decide) (hts (.fieldLink RX11 57 "DynamicLogicProver" "parser" "LDynamicLogicProver$Parser;") (mo_X11_parseFormula 10 rfl)) (fun _ h9 => h9) rfl dX11_parseFormula_51 ?_
      refine kc_Vi (As := []) (rest := [.int (-10)]) (wr := [(x, .inr (11, [.ref mo, .ref sm, .ref sc, .ref fo, .ref sf, .ref bu, .ref po, .ref te, .ref pa, .ref rw, .ref tr, .ref cl, .ref pt, .ref ru, .ref de, .int 0, .int 0])), (fo, .inr (9, [.ref fa, .ref fb, .ref fd, .int 0])), (po, .inr (6, [.ref p1, .ref p2, .ref p3, .ref p4, .ref p5, .ref p6, .ref p7, .ref p8, .ref p9, .ref pA, .ref pB, .int 0])), (p8, .inl (kp8, 256, .inl o_8)), (op, .inl (kop, 101, .inl o_12))]) ⟨hx, hb, hml, hown, hts⟩ (ct_X4_fault0 l D pa po te op _ ) (cwV 0 hts (kg_V (mo_X11_parseFormula 16 rfl) (mo_X11_parseFormula 17 rfl) (mo_X11_parseFormula 18 rfl) (mo_X11_parseFormula 15 rfl) (goodIn_sub mb_X11_parseFormula_3 gw_X4_fault0)) rfl rfl rfl ⟨rfl, hd_X4_fault⟩ ⟨Nat.le_of_ble_eq_true rfl, Nat.le_of_ble_eq_true rfl⟩) (RX4, TX4, 8) 4 5 rfl rfl rfl hK hN hP hD hS hA [5] [0, 1, 2, 3, 4] [] rfl rfl (by decide) (by decide) (by decide) rfl rfl hl.1 rfl (Nat.le_of_ble_eq_true rfl) dX11_parseFormula_54 ⟨Nat.le_of_ble_eq_true rfl, Nat.le_of_ble_eq_true rfl⟩ (fun r_17 u_18 H locs w_19 hP hD hK1 hS => ?_)
      have hP : va_P D vwCl [(x, .inr (11, [.ref mo, .ref sm, .ref sc, .ref fo, .ref sf, .ref bu, .ref po, .ref te, .ref pa, .ref rw, .ref tr, .ref cl, .ref pt, .ref ru, .ref de, .int 0, .int 0])), (fo, .inr (9, [.ref fa, .ref fb, .ref fd, .int 0])), (po, .inr (6, [.ref p1, .ref p2, .ref p3, .ref p4, .ref p5, .ref p6, .ref p7, .ref p8, .ref p9, .ref pA, .ref pB, .int 0])), (p8, .inl (kp8, 256, .inl o_8)), (op, .inl (kop, 101, .inl o_12)), (pa, .inr (4, [.ref po, .ref te, .ref op, .int 0, .int 0, .int 0, .int 0, .int 0]))] H := hP
      have hD : va_D A [(x, .inr (11, [.ref mo, .ref sm, .ref sc, .ref fo, .ref sf, .ref bu, .ref po, .ref te, .ref pa, .ref rw, .ref tr, .ref cl, .ref pt, .ref ru, .ref de, .int 0, .int 0])), (fo, .inr (9, [.ref fa, .ref fb, .ref fd, .int 0])), (po, .inr (6, [.ref p1, .ref p2, .ref p3, .ref p4, .ref p5, .ref p6, .ref p7, .ref p8, .ref p9, .ref pA, .ref pB, .int 0])), (p8, .inl (kp8, 256, .inl o_8)), (op, .inl (kop, 101, .inl o_12)), (pa, .inr (4, [.ref po, .ref te, .ref op, .int 0, .int 0, .int 0, .int 0, .int 0]))] := hD
      have w_19 : r_17 = 0 := w_19
      subst w_19
      refine lv_isub hx hb dX11_parseFormula_57 ?_
      refine lv_topi (fun x_20 ex_20 => ?_)
      obtain rfl : x_20 = (-10) := ex_20.trans (by decide)
      have hP9 := hP.sub (ws' := []) [] rfl
      have hD9 := hD.sub (ws' := []) [] (by decide) rfl
      have hK9 := hK.sub (tys' := []) [] rfl
      exact W.iret (v := (-10)) hx hb hr (fun tZ htZ hW => ⟨⟨(-10), (), rfl, rfl, by rw [htZ]; exact hP9, va_K.moved hW.alike hK9, hD9⟩, hS.F htZ⟩) hS.2.2 dX11_parseFormula_58
  · exact absurd c_4 (by decide)
theorem dX11_dropFormula_0 : decode cX11_dropFormula 0 = .ok (.aload_n 0, 1) := by decide +kernel
theorem dX11_dropFormula_1 : decode cX11_dropFormula 1 = .ok (.getfield 27, 3) := by decide +kernel
theorem dX11_dropFormula_4 : decode cX11_dropFormula 4 = .ok (.invokevirtual 190, 3) := by decide +kernel
theorem dX11_dropFormula_7 : decode cX11_dropFormula 7 = .ok (.ifCond .eq 8, 3) := by decide +kernel
theorem dX11_dropFormula_10 : decode cX11_dropFormula 10 = .ok (.bipush (-5), 2) := by decide +kernel
theorem dX11_dropFormula_12 : decode cX11_dropFormula 12 = .ok (.goto 10, 3) := by decide +kernel
theorem dX11_dropFormula_15 : decode cX11_dropFormula 15 = .ok (.aload_n 0, 1) := by decide +kernel
theorem dX11_dropFormula_16 : decode cX11_dropFormula 16 = .ok (.getfield 27, 3) := by decide +kernel
theorem dX11_dropFormula_19 : decode cX11_dropFormula 19 = .ok (.invokevirtual 193, 3) := by decide +kernel
theorem dX11_dropFormula_22 : decode cX11_dropFormula 22 = .ok (.ireturn, 1) := by decide +kernel
def wo_X11_dropFormula : List Cond := [.fieldLink RX11 27 "DynamicLogicProver" "formulas" "LDynamicLogicProver$Shelf;", .methodLink RX11 190 yX9_isEmpty, .instanceMethod yX9_isEmpty, .selects RX9 yX9_isEmpty yX9_isEmpty, .initialized RX9]
def wd_X11_dropFormula : List Cond := .code yX11_dropFormula cX11_dropFormula 1 (some .int) :: (wo_X11_dropFormula ++ (wd_X9_isEmpty0 ++ (wsX110 ++ ([] : List Cond))))
theorem mo_X11_dropFormula {w : Cond} (i : Nat) (h : wo_X11_dropFormula[i]? = some w) : w ∈ wd_X11_dropFormula := List.mem_cons_of_mem _ (List.mem_append_left _ (List.mem_of_getElem? h))
theorem mb_X11_dropFormula_0 : ∀ w ∈ wd_X9_isEmpty0, w ∈ wd_X11_dropFormula := fun w h => List.mem_cons_of_mem _ (List.mem_append_right _ (List.mem_append_left _ h))
theorem mb_X11_dropFormula_1 : ∀ w ∈ wsX110, w ∈ wd_X11_dropFormula := fun w h => List.mem_cons_of_mem _ (List.mem_append_right _ (List.mem_append_right _ (List.mem_append_left _ h)))
theorem hd_X11_dropFormula : yX11_dropFormula.cls ≠ "java/lang/invoke/MethodHandle" ∧ yX11_dropFormula.cls ≠ "java/lang/invoke/VarHandle" ∧ (parseMethodDescriptor yX11_dropFormula.desc).map (fun d => d.parameters.length) = some 0 := by decide +kernel
set_option maxRecDepth 20000 in
theorem gw_X11_dropFormula : wd_X11_dropFormula.all goodWord = true := by decide +kernel
abbrev qc_X11_dropFormula (D : va_G) (x : Nat) (mo : Nat) (sm : Nat) (sc : Nat) (fo : Nat) (sf : Nat) (bu : Nat) (po : Nat) (te : Nat) (pa : Nat) (rw : Nat) (tr : Nat) (cl : Nat) (pt : Nat) (ru : Nat) (de : Nat) (fa : Nat) (fb : Nat) (fd : Nat) (A : Nat → Prop) : Array Value → State → Outcome → State → Prop := va_Qi (fun (r : Int32) (uZ : Unit) => r = (-5)) (fun uZ tZ => kc_pos D A [] [] tZ) A
set_option maxHeartbeats 4000000 in
set_option maxRecDepth 100000 in
theorem ct_X11_dropFormula (l : Launch) (D : va_G) (x : Nat) (mo : Nat) (sm : Nat) (sc : Nat) (fo : Nat) (sf : Nat) (bu : Nat) (po : Nat) (te : Nat) (pa : Nat) (rw : Nat) (tr : Nat) (cl : Nat) (pt : Nat) (ru : Nat) (de : Nat) (fa : Nat) (fb : Nat) (fd : Nat) (sz : Nat)  : Met l yX11_dropFormula wd_X11_dropFormula ({ frames := 1, cells := 0, slots := 0, locals := 20 }) (va_Pc [.ref x] (kc_pre D [] [(x, .inr (11, [.ref mo, .ref sm, .ref sc, .ref fo, .ref sf, .ref bu, .ref po, .ref te, .ref pa, .ref rw, .ref tr, .ref cl, .ref pt, .ref ru, .ref de, .int 0, .int 0])), (fo, .inr (9, [.ref fa, .ref fb, .ref fd, .int 0]))] sz)) (qc_X11_dropFormula D x mo sm sc fo sf bu po te pa rw tr cl pt ru de fa fb fd (va_A [(x, .inr (11, [.ref mo, .ref sm, .ref sc, .ref fo, .ref sf, .ref bu, .ref po, .ref te, .ref pa, .ref rw, .ref tr, .ref cl, .ref pt, .ref ru, .ref de, .int 0, .int 0])), (fo, .inr (9, [.ref fa, .ref fb, .ref fd, .int 0]))] sz)) 0 0 (va_A [(x, .inr (11, [.ref mo, .ref sm, .ref sc, .ref fo, .ref sf, .ref bu, .ref po, .ref te, .ref pa, .ref rw, .ref tr, .ref cl, .ref pt, .ref ru, .ref de, .int 0, .int 0])), (fo, .inr (9, [.ref fa, .ref fb, .ref fd, .int 0]))] sz) := by
  refine Met.ofW (cc := cX11_dropFormula) (maxL := 1) (ret := (some .int)) (by decide) rfl ?_
  intro p e s m args below meth c s₁ B hml hv
  obtain ⟨rfl, hsz, hP, hK, hN, hD0⟩ := hv
  have hx := B.exec
  have hb := B.bytes
  have hr := B.returns
  have hts := atoms_spec (ws := wd_X11_dropFormula) B.pre
  have hown : s.vm.findClass RX11 = some m.cls := findClass_of_methodNamed B.named
  have hlocks := B.notSynchronized
  subst hsz
  have hD := hD0.self (sz := s.heap.size)
  generalize hAe : va_A [(x, .inr (11, [.ref mo, .ref sm, .ref sc, .ref fo, .ref sf, .ref bu, .ref po, .ref te, .ref pa, .ref rw, .ref tr, .ref cl, .ref pt, .ref ru, .ref de, .int 0, .int 0])), (fo, .inr (9, [.ref fa, .ref fb, .ref fd, .int 0]))] s.heap.size = A at hD ⊢
  have hA : ∀ q : Nat, s.heap.size ≤ q → A q := fun q h => by rw [← hAe]; exact Or.inr h
  have hS : va_S A s.heap s.heap [] := va_S.rf
  have hiX11 : ∀ w ∈ wsX110, w ∈ wd_X11_dropFormula := mb_X11_dropFormula_1
  have hl := lv_entry ([.ref x]) (n := 1) (Nat.le_of_ble_eq_true rfl)
  rw [lg_entry_eq]
  generalize (lg_sl ([.ref x]) ++ List.replicate (1 - (lg_sl ([.ref x])).length) Slot.unset).toArray = ls at hl ⊢
  have hl : lv_has ls 1 [(0, .ref x)] := hl
  refine lv_aload_n hx hb dX11_dropFormula_0 rfl (lv_at hl 0 rfl) ?_
  refine va_get (D := D) (ci := 11) (v := .ref fo) (C := RX11) (T := TX11) (N := 17) hx hb hts hiX11 hown hK hP 0 rfl rfl 3 (by decide) (hts (.fieldLink RX11 27 "DynamicLogicProver" "formulas" "LDynamicLogicProver$Shelf;") (mo_X11_dropFormula 0 rfl)) (fun _ h9 => h9) rfl dX11_dropFormula_1 ?_
  refine kc_Vi (As := []) (rest := []) (wr := [(x, .inr (11, [.ref mo, .ref sm, .ref sc, .ref fo, .ref sf, .ref bu, .ref po, .ref te, .ref pa, .ref rw, .ref tr, .ref cl, .ref pt, .ref ru, .ref de, .int 0, .int 0]))]) ⟨hx, hb, hml, hown, hts⟩ (ct_X9_isEmpty0 l D fo fa fb fd _ ) (cwV 0 hts (kg_V (mo_X11_dropFormula 1 rfl) (mo_X11_dropFormula 2 rfl) (mo_X11_dropFormula 3 rfl) (mo_X11_dropFormula 4 rfl) (goodIn_sub mb_X11_dropFormula_0 gw_X9_isEmpty0)) rfl rfl rfl ⟨rfl, hd_X9_isEmpty⟩ ⟨Nat.le_of_ble_eq_true rfl, Nat.le_of_ble_eq_true rfl⟩) (RX9, TX9, 4) 9 1 rfl rfl rfl hK hN hP hD hS hA [1] [0] [] rfl rfl (by decide) (by decide) (by decide) rfl rfl hl.1 rfl (Nat.le_of_ble_eq_true rfl) dX11_dropFormula_4 ⟨Nat.le_of_ble_eq_true rfl, Nat.le_of_ble_eq_true rfl⟩ (fun r_1 u_2 H locs w_3 hP hD hK1 hS => ?_)
  have hP : va_P D vwCl [(x, .inr (11, [.ref mo, .ref sm, .ref sc, .ref fo, .ref sf, .ref bu, .ref po, .ref te, .ref pa, .ref rw, .ref tr, .ref cl, .ref pt, .ref ru, .ref de, .int 0, .int 0])), (fo, .inr (9, [.ref fa, .ref fb, .ref fd, .int 0]))] H := hP
  have hD : va_D A [(x, .inr (11, [.ref mo, .ref sm, .ref sc, .ref fo, .ref sf, .ref bu, .ref po, .ref te, .ref pa, .ref rw, .ref tr, .ref cl, .ref pt, .ref ru, .ref de, .int 0, .int 0])), (fo, .inr (9, [.ref fa, .ref fb, .ref fd, .int 0]))] := hD
  have w_3 : r_1 = 1 := w_3
  subst w_3
  refine lv_if_eq (tgt := 15) hx hb dX11_dropFormula_7 (by decide) (fun c_4 => ?_) (fun c_4 => ?_)
  · exact absurd c_4 (by decide)
  · refine lv_bipush (v := (-5)) hx hb dX11_dropFormula_10 (by decide) ?_
    refine lv_goto (tgt := 22) hx hb dX11_dropFormula_12 (by decide) ?_
    have hP9 := hP.sub (ws' := []) [] rfl
    have hD9 := hD.sub (ws' := []) [] (by decide) rfl
    have hK9 := hK.sub (tys' := []) [] rfl
    exact W.iret (v := (-5)) hx hb hr (fun tZ htZ hW => ⟨⟨(-5), (), rfl, rfl, by rw [htZ]; exact hP9, va_K.moved hW.alike hK9, hD9⟩, hS.F htZ⟩) hS.2.2 dX11_dropFormula_22
theorem dX11_formulaSize_0 : decode cX11_formulaSize 0 = .ok (.aload_n 0, 1) := by decide +kernel
theorem dX11_formulaSize_1 : decode cX11_formulaSize 1 = .ok (.getfield 27, 3) := by decide +kernel
theorem dX11_formulaSize_4 : decode cX11_formulaSize 4 = .ok (.iload_n 1, 1) := by decide +kernel
theorem dX11_formulaSize_5 : decode cX11_formulaSize 5 = .ok (.invokevirtual 196, 3) := by decide +kernel
theorem dX11_formulaSize_8 : decode cX11_formulaSize 8 = .ok (.ifCond .eq 14, 3) := by decide +kernel
theorem dX11_formulaSize_11 : decode cX11_formulaSize 11 = .ok (.aload_n 0, 1) := by decide +kernel
theorem dX11_formulaSize_12 : decode cX11_formulaSize 12 = .ok (.getfield 27, 3) := by decide +kernel
theorem dX11_formulaSize_15 : decode cX11_formulaSize 15 = .ok (.iload_n 1, 1) := by decide +kernel
theorem dX11_formulaSize_16 : decode cX11_formulaSize 16 = .ok (.invokevirtual 197, 3) := by decide +kernel
theorem dX11_formulaSize_19 : decode cX11_formulaSize 19 = .ok (.goto 4, 3) := by decide +kernel
theorem dX11_formulaSize_22 : decode cX11_formulaSize 22 = .ok (.iconst (-1), 1) := by decide +kernel
theorem dX11_formulaSize_23 : decode cX11_formulaSize 23 = .ok (.ireturn, 1) := by decide +kernel
def wo_X11_formulaSize : List Cond := [.fieldLink RX11 27 "DynamicLogicProver" "formulas" "LDynamicLogicProver$Shelf;", .methodLink RX11 196 yX9_has, .instanceMethod yX9_has, .selects RX9 yX9_has yX9_has, .initialized RX9]
def wd_X11_formulaSize : List Cond := .code yX11_formulaSize cX11_formulaSize 2 (some .int) :: (wo_X11_formulaSize ++ (wd_X9_has0 ++ (wsX110 ++ ([] : List Cond))))
theorem mo_X11_formulaSize {w : Cond} (i : Nat) (h : wo_X11_formulaSize[i]? = some w) : w ∈ wd_X11_formulaSize := List.mem_cons_of_mem _ (List.mem_append_left _ (List.mem_of_getElem? h))
theorem mb_X11_formulaSize_0 : ∀ w ∈ wd_X9_has0, w ∈ wd_X11_formulaSize := fun w h => List.mem_cons_of_mem _ (List.mem_append_right _ (List.mem_append_left _ h))
theorem mb_X11_formulaSize_1 : ∀ w ∈ wsX110, w ∈ wd_X11_formulaSize := fun w h => List.mem_cons_of_mem _ (List.mem_append_right _ (List.mem_append_right _ (List.mem_append_left _ h)))
theorem hd_X11_formulaSize : yX11_formulaSize.cls ≠ "java/lang/invoke/MethodHandle" ∧ yX11_formulaSize.cls ≠ "java/lang/invoke/VarHandle" ∧ (parseMethodDescriptor yX11_formulaSize.desc).map (fun d => d.parameters.length) = some 1 := by decide +kernel
set_option maxRecDepth 20000 in
theorem gw_X11_formulaSize : wd_X11_formulaSize.all goodWord = true := by decide +kernel
abbrev qc_X11_formulaSize (D : va_G) (x : Nat) (mo : Nat) (sm : Nat) (sc : Nat) (fo : Nat) (sf : Nat) (bu : Nat) (po : Nat) (te : Nat) (pa : Nat) (rw : Nat) (tr : Nat) (cl : Nat) (pt : Nat) (ru : Nat) (de : Nat) (fa : Nat) (fb : Nat) (fd : Nat) (g1 : Int32) (A : Nat → Prop) : Array Value → State → Outcome → State → Prop := va_Qi (fun (r : Int32) (uZ : Unit) => r = (-1)) (fun uZ tZ => kc_pos D A [] [] tZ) A
set_option maxHeartbeats 4000000 in
set_option maxRecDepth 100000 in
theorem ct_X11_formulaSize (l : Launch) (D : va_G) (x : Nat) (mo : Nat) (sm : Nat) (sc : Nat) (fo : Nat) (sf : Nat) (bu : Nat) (po : Nat) (te : Nat) (pa : Nat) (rw : Nat) (tr : Nat) (cl : Nat) (pt : Nat) (ru : Nat) (de : Nat) (fa : Nat) (fb : Nat) (fd : Nat) (g1 : Int32) (sz : Nat)  : Met l yX11_formulaSize wd_X11_formulaSize ({ frames := 1, cells := 0, slots := 0, locals := 21 }) (va_Pc [.ref x, .int g1] (kc_pre D [] [(x, .inr (11, [.ref mo, .ref sm, .ref sc, .ref fo, .ref sf, .ref bu, .ref po, .ref te, .ref pa, .ref rw, .ref tr, .ref cl, .ref pt, .ref ru, .ref de, .int 0, .int 0])), (fo, .inr (9, [.ref fa, .ref fb, .ref fd, .int 0]))] sz)) (qc_X11_formulaSize D x mo sm sc fo sf bu po te pa rw tr cl pt ru de fa fb fd g1 (va_A [(x, .inr (11, [.ref mo, .ref sm, .ref sc, .ref fo, .ref sf, .ref bu, .ref po, .ref te, .ref pa, .ref rw, .ref tr, .ref cl, .ref pt, .ref ru, .ref de, .int 0, .int 0])), (fo, .inr (9, [.ref fa, .ref fb, .ref fd, .int 0]))] sz)) 0 0 (va_A [(x, .inr (11, [.ref mo, .ref sm, .ref sc, .ref fo, .ref sf, .ref bu, .ref po, .ref te, .ref pa, .ref rw, .ref tr, .ref cl, .ref pt, .ref ru, .ref de, .int 0, .int 0])), (fo, .inr (9, [.ref fa, .ref fb, .ref fd, .int 0]))] sz) := by
  refine Met.ofW (cc := cX11_formulaSize) (maxL := 2) (ret := (some .int)) (by decide) rfl ?_
  intro p e s m args below meth c s₁ B hml hv
  obtain ⟨rfl, hsz, hP, hK, hN, hD0⟩ := hv
  have hx := B.exec
  have hb := B.bytes
  have hr := B.returns
  have hts := atoms_spec (ws := wd_X11_formulaSize) B.pre
  have hown : s.vm.findClass RX11 = some m.cls := findClass_of_methodNamed B.named
  have hlocks := B.notSynchronized
  subst hsz
  have hD := hD0.self (sz := s.heap.size)
  generalize hAe : va_A [(x, .inr (11, [.ref mo, .ref sm, .ref sc, .ref fo, .ref sf, .ref bu, .ref po, .ref te, .ref pa, .ref rw, .ref tr, .ref cl, .ref pt, .ref ru, .ref de, .int 0, .int 0])), (fo, .inr (9, [.ref fa, .ref fb, .ref fd, .int 0]))] s.heap.size = A at hD ⊢
  have hA : ∀ q : Nat, s.heap.size ≤ q → A q := fun q h => by rw [← hAe]; exact Or.inr h
  have hS : va_S A s.heap s.heap [] := va_S.rf
  have hiX11 : ∀ w ∈ wsX110, w ∈ wd_X11_formulaSize := mb_X11_formulaSize_1
  have hl := lv_entry ([.ref x, .int g1]) (n := 2) (Nat.le_of_ble_eq_true rfl)
  rw [lg_entry_eq]
  generalize (lg_sl ([.ref x, .int g1]) ++ List.replicate (2 - (lg_sl ([.ref x, .int g1])).length) Slot.unset).toArray = ls at hl ⊢
  have hl : lv_has ls 2 [(0, .ref x), (1, .int g1)] := hl
  refine lv_aload_n hx hb dX11_formulaSize_0 rfl (lv_at hl 0 rfl) ?_
  refine va_get (D := D) (ci := 11) (v := .ref fo) (C := RX11) (T := TX11) (N := 17) hx hb hts hiX11 hown hK hP 0 rfl rfl 3 (by decide) (hts (.fieldLink RX11 27 "DynamicLogicProver" "formulas" "LDynamicLogicProver$Shelf;") (mo_X11_formulaSize 0 rfl)) (fun _ h9 => h9) rfl dX11_formulaSize_1 ?_
  refine lv_iload_n hx hb dX11_formulaSize_4 rfl (lv_at hl 1 rfl) ?_
  refine kc_Vi (As := [.int g1]) (rest := []) (wr := [(x, .inr (11, [.ref mo, .ref sm, .ref sc, .ref fo, .ref sf, .ref bu, .ref po, .ref te, .ref pa, .ref rw, .ref tr, .ref cl, .ref pt, .ref ru, .ref de, .int 0, .int 0]))]) ⟨hx, hb, hml, hown, hts⟩ (ct_X9_has0 l D fo fa fb fd g1 _ ) (cwV 1 hts (kg_V (mo_X11_formulaSize 1 rfl) (mo_X11_formulaSize 2 rfl) (mo_X11_formulaSize 3 rfl) (mo_X11_formulaSize 4 rfl) (goodIn_sub mb_X11_formulaSize_0 gw_X9_has0)) rfl rfl rfl ⟨rfl, hd_X9_has⟩ ⟨Nat.le_of_ble_eq_true rfl, Nat.le_of_ble_eq_true rfl⟩) (RX9, TX9, 4) 9 1 rfl rfl rfl hK hN hP hD hS hA [1] [0] [] rfl rfl (by decide) (by decide) (by decide) rfl rfl hl.1 rfl (Nat.le_of_ble_eq_true rfl) dX11_formulaSize_5 ⟨Nat.le_of_ble_eq_true rfl, Nat.le_of_ble_eq_true rfl⟩ (fun r_1 u_2 H locs w_3 hP hD hK1 hS => ?_)
  have hP : va_P D vwCl [(x, .inr (11, [.ref mo, .ref sm, .ref sc, .ref fo, .ref sf, .ref bu, .ref po, .ref te, .ref pa, .ref rw, .ref tr, .ref cl, .ref pt, .ref ru, .ref de, .int 0, .int 0])), (fo, .inr (9, [.ref fa, .ref fb, .ref fd, .int 0]))] H := hP
  have hD : va_D A [(x, .inr (11, [.ref mo, .ref sm, .ref sc, .ref fo, .ref sf, .ref bu, .ref po, .ref te, .ref pa, .ref rw, .ref tr, .ref cl, .ref pt, .ref ru, .ref de, .int 0, .int 0])), (fo, .inr (9, [.ref fa, .ref fb, .ref fd, .int 0]))] := hD
  have w_3 : r_1 = 0 := w_3
  subst w_3
  refine lv_if_eq (tgt := 22) hx hb dX11_formulaSize_8 (by decide) (fun c_4 => ?_) (fun c_4 => ?_)
  · refine lv_iconst (v := (-1)) hx hb dX11_formulaSize_22 (by decide) ?_
    have hP9 := hP.sub (ws' := []) [] rfl
    have hD9 := hD.sub (ws' := []) [] (by decide) rfl
    have hK9 := hK.sub (tys' := []) [] rfl
    exact W.iret (v := (-1)) hx hb hr (fun tZ htZ hW => ⟨⟨(-1), (), rfl, rfl, by rw [htZ]; exact hP9, va_K.moved hW.alike hK9, hD9⟩, hS.F htZ⟩) hS.2.2 dX11_formulaSize_23
  · exact absurd c_4 (by decide)
theorem dX11_starHeight_0 : decode cX11_starHeight 0 = .ok (.aload_n 0, 1) := by decide +kernel
theorem dX11_starHeight_1 : decode cX11_starHeight 1 = .ok (.getfield 27, 3) := by decide +kernel
theorem dX11_starHeight_4 : decode cX11_starHeight 4 = .ok (.iload_n 1, 1) := by decide +kernel
theorem dX11_starHeight_5 : decode cX11_starHeight 5 = .ok (.invokevirtual 196, 3) := by decide +kernel
theorem dX11_starHeight_8 : decode cX11_starHeight 8 = .ok (.ifCond .eq 18, 3) := by decide +kernel
theorem dX11_starHeight_11 : decode cX11_starHeight 11 = .ok (.aload_n 0, 1) := by decide +kernel
theorem dX11_starHeight_12 : decode cX11_starHeight 12 = .ok (.getfield 44, 3) := by decide +kernel
theorem dX11_starHeight_15 : decode cX11_starHeight 15 = .ok (.aload_n 0, 1) := by decide +kernel
theorem dX11_starHeight_16 : decode cX11_starHeight 16 = .ok (.iload_n 1, 1) := by decide +kernel
theorem dX11_starHeight_17 : decode cX11_starHeight 17 = .ok (.invokevirtual 200, 3) := by decide +kernel
theorem dX11_starHeight_20 : decode cX11_starHeight 20 = .ok (.invokevirtual 184, 3) := by decide +kernel
theorem dX11_starHeight_23 : decode cX11_starHeight 23 = .ok (.goto 4, 3) := by decide +kernel
theorem dX11_starHeight_26 : decode cX11_starHeight 26 = .ok (.iconst (-1), 1) := by decide +kernel
theorem dX11_starHeight_27 : decode cX11_starHeight 27 = .ok (.ireturn, 1) := by decide +kernel
def wo_X11_starHeight : List Cond := [.fieldLink RX11 27 "DynamicLogicProver" "formulas" "LDynamicLogicProver$Shelf;", .methodLink RX11 196 yX9_has, .instanceMethod yX9_has, .selects RX9 yX9_has yX9_has, .initialized RX9]
def wd_X11_starHeight : List Cond := .code yX11_starHeight cX11_starHeight 2 (some .int) :: (wo_X11_starHeight ++ (wd_X9_has0 ++ (wsX110 ++ ([] : List Cond))))
theorem mo_X11_starHeight {w : Cond} (i : Nat) (h : wo_X11_starHeight[i]? = some w) : w ∈ wd_X11_starHeight := List.mem_cons_of_mem _ (List.mem_append_left _ (List.mem_of_getElem? h))
theorem mb_X11_starHeight_0 : ∀ w ∈ wd_X9_has0, w ∈ wd_X11_starHeight := fun w h => List.mem_cons_of_mem _ (List.mem_append_right _ (List.mem_append_left _ h))
theorem mb_X11_starHeight_1 : ∀ w ∈ wsX110, w ∈ wd_X11_starHeight := fun w h => List.mem_cons_of_mem _ (List.mem_append_right _ (List.mem_append_right _ (List.mem_append_left _ h)))
theorem hd_X11_starHeight : yX11_starHeight.cls ≠ "java/lang/invoke/MethodHandle" ∧ yX11_starHeight.cls ≠ "java/lang/invoke/VarHandle" ∧ (parseMethodDescriptor yX11_starHeight.desc).map (fun d => d.parameters.length) = some 1 := by decide +kernel
set_option maxRecDepth 20000 in
theorem gw_X11_starHeight : wd_X11_starHeight.all goodWord = true := by decide +kernel
abbrev qc_X11_starHeight (D : va_G) (x : Nat) (mo : Nat) (sm : Nat) (sc : Nat) (fo : Nat) (sf : Nat) (bu : Nat) (po : Nat) (te : Nat) (pa : Nat) (rw : Nat) (tr : Nat) (cl : Nat) (pt : Nat) (ru : Nat) (de : Nat) (fa : Nat) (fb : Nat) (fd : Nat) (g1 : Int32) (A : Nat → Prop) : Array Value → State → Outcome → State → Prop := va_Qi (fun (r : Int32) (uZ : Unit) => r = (-1)) (fun uZ tZ => kc_pos D A [] [] tZ) A
set_option maxHeartbeats 4000000 in
set_option maxRecDepth 100000 in
theorem ct_X11_starHeight (l : Launch) (D : va_G) (x : Nat) (mo : Nat) (sm : Nat) (sc : Nat) (fo : Nat) (sf : Nat) (bu : Nat) (po : Nat) (te : Nat) (pa : Nat) (rw : Nat) (tr : Nat) (cl : Nat) (pt : Nat) (ru : Nat) (de : Nat) (fa : Nat) (fb : Nat) (fd : Nat) (g1 : Int32) (sz : Nat)  : Met l yX11_starHeight wd_X11_starHeight ({ frames := 1, cells := 0, slots := 0, locals := 21 }) (va_Pc [.ref x, .int g1] (kc_pre D [] [(x, .inr (11, [.ref mo, .ref sm, .ref sc, .ref fo, .ref sf, .ref bu, .ref po, .ref te, .ref pa, .ref rw, .ref tr, .ref cl, .ref pt, .ref ru, .ref de, .int 0, .int 0])), (fo, .inr (9, [.ref fa, .ref fb, .ref fd, .int 0]))] sz)) (qc_X11_starHeight D x mo sm sc fo sf bu po te pa rw tr cl pt ru de fa fb fd g1 (va_A [(x, .inr (11, [.ref mo, .ref sm, .ref sc, .ref fo, .ref sf, .ref bu, .ref po, .ref te, .ref pa, .ref rw, .ref tr, .ref cl, .ref pt, .ref ru, .ref de, .int 0, .int 0])), (fo, .inr (9, [.ref fa, .ref fb, .ref fd, .int 0]))] sz)) 0 0 (va_A [(x, .inr (11, [.ref mo, .ref sm, .ref sc, .ref fo, .ref sf, .ref bu, .ref po, .ref te, .ref pa, .ref rw, .ref tr, .ref cl, .ref pt, .ref ru, .ref de, .int 0, .int 0])), (fo, .inr (9, [.ref fa, .ref fb, .ref fd, .int 0]))] sz) := by
  refine Met.ofW (cc := cX11_starHeight) (maxL := 2) (ret := (some .int)) (by decide) rfl ?_
  intro p e s m args below meth c s₁ B hml hv
  obtain ⟨rfl, hsz, hP, hK, hN, hD0⟩ := hv
  have hx := B.exec
  have hb := B.bytes
  have hr := B.returns
  have hts := atoms_spec (ws := wd_X11_starHeight) B.pre
  have hown : s.vm.findClass RX11 = some m.cls := findClass_of_methodNamed B.named
  have hlocks := B.notSynchronized
  subst hsz
  have hD := hD0.self (sz := s.heap.size)
  generalize hAe : va_A [(x, .inr (11, [.ref mo, .ref sm, .ref sc, .ref fo, .ref sf, .ref bu, .ref po, .ref te, .ref pa, .ref rw, .ref tr, .ref cl, .ref pt, .ref ru, .ref de, .int 0, .int 0])), (fo, .inr (9, [.ref fa, .ref fb, .ref fd, .int 0]))] s.heap.size = A at hD ⊢
  have hA : ∀ q : Nat, s.heap.size ≤ q → A q := fun q h => by rw [← hAe]; exact Or.inr h
  have hS : va_S A s.heap s.heap [] := va_S.rf
  have hiX11 : ∀ w ∈ wsX110, w ∈ wd_X11_starHeight := mb_X11_starHeight_1
  have hl := lv_entry ([.ref x, .int g1]) (n := 2) (Nat.le_of_ble_eq_true rfl)
  rw [lg_entry_eq]
  generalize (lg_sl ([.ref x, .int g1]) ++ List.replicate (2 - (lg_sl ([.ref x, .int g1])).length) Slot.unset).toArray = ls at hl ⊢
  have hl : lv_has ls 2 [(0, .ref x), (1, .int g1)] := hl
  refine lv_aload_n hx hb dX11_starHeight_0 rfl (lv_at hl 0 rfl) ?_
  refine va_get (D := D) (ci := 11) (v := .ref fo) (C := RX11) (T := TX11) (N := 17) hx hb hts hiX11 hown hK hP 0 rfl rfl 3 (by decide) (hts (.fieldLink RX11 27 "DynamicLogicProver" "formulas" "LDynamicLogicProver$Shelf;") (mo_X11_starHeight 0 rfl)) (fun _ h9 => h9) rfl dX11_starHeight_1 ?_
  refine lv_iload_n hx hb dX11_starHeight_4 rfl (lv_at hl 1 rfl) ?_
  refine kc_Vi (As := [.int g1]) (rest := []) (wr := [(x, .inr (11, [.ref mo, .ref sm, .ref sc, .ref fo, .ref sf, .ref bu, .ref po, .ref te, .ref pa, .ref rw, .ref tr, .ref cl, .ref pt, .ref ru, .ref de, .int 0, .int 0]))]) ⟨hx, hb, hml, hown, hts⟩ (ct_X9_has0 l D fo fa fb fd g1 _ ) (cwV 1 hts (kg_V (mo_X11_starHeight 1 rfl) (mo_X11_starHeight 2 rfl) (mo_X11_starHeight 3 rfl) (mo_X11_starHeight 4 rfl) (goodIn_sub mb_X11_starHeight_0 gw_X9_has0)) rfl rfl rfl ⟨rfl, hd_X9_has⟩ ⟨Nat.le_of_ble_eq_true rfl, Nat.le_of_ble_eq_true rfl⟩) (RX9, TX9, 4) 9 1 rfl rfl rfl hK hN hP hD hS hA [1] [0] [] rfl rfl (by decide) (by decide) (by decide) rfl rfl hl.1 rfl (Nat.le_of_ble_eq_true rfl) dX11_starHeight_5 ⟨Nat.le_of_ble_eq_true rfl, Nat.le_of_ble_eq_true rfl⟩ (fun r_1 u_2 H locs w_3 hP hD hK1 hS => ?_)
  have hP : va_P D vwCl [(x, .inr (11, [.ref mo, .ref sm, .ref sc, .ref fo, .ref sf, .ref bu, .ref po, .ref te, .ref pa, .ref rw, .ref tr, .ref cl, .ref pt, .ref ru, .ref de, .int 0, .int 0])), (fo, .inr (9, [.ref fa, .ref fb, .ref fd, .int 0]))] H := hP
  have hD : va_D A [(x, .inr (11, [.ref mo, .ref sm, .ref sc, .ref fo, .ref sf, .ref bu, .ref po, .ref te, .ref pa, .ref rw, .ref tr, .ref cl, .ref pt, .ref ru, .ref de, .int 0, .int 0])), (fo, .inr (9, [.ref fa, .ref fb, .ref fd, .int 0]))] := hD
  have w_3 : r_1 = 0 := w_3
  subst w_3
  refine lv_if_eq (tgt := 26) hx hb dX11_starHeight_8 (by decide) (fun c_4 => ?_) (fun c_4 => ?_)
  · refine lv_iconst (v := (-1)) hx hb dX11_starHeight_26 (by decide) ?_
    have hP9 := hP.sub (ws' := []) [] rfl
    have hD9 := hD.sub (ws' := []) [] (by decide) rfl
    have hK9 := hK.sub (tys' := []) [] rfl
    exact W.iret (v := (-1)) hx hb hr (fun tZ htZ hW => ⟨⟨(-1), (), rfl, rfl, by rw [htZ]; exact hP9, va_K.moved hW.alike hK9, hD9⟩, hS.F htZ⟩) hS.2.2 dX11_starHeight_27
  · exact absurd c_4 (by decide)
theorem dX11_textLength_0 : decode cX11_textLength 0 = .ok (.aload_n 0, 1) := by decide +kernel
theorem dX11_textLength_1 : decode cX11_textLength 1 = .ok (.getfield 27, 3) := by decide +kernel
theorem dX11_textLength_4 : decode cX11_textLength 4 = .ok (.iload_n 1, 1) := by decide +kernel
theorem dX11_textLength_5 : decode cX11_textLength 5 = .ok (.invokevirtual 196, 3) := by decide +kernel
theorem dX11_textLength_8 : decode cX11_textLength 8 = .ok (.ifCond .eq 18, 3) := by decide +kernel
theorem dX11_textLength_11 : decode cX11_textLength 11 = .ok (.aload_n 0, 1) := by decide +kernel
theorem dX11_textLength_12 : decode cX11_textLength 12 = .ok (.getfield 44, 3) := by decide +kernel
theorem dX11_textLength_15 : decode cX11_textLength 15 = .ok (.aload_n 0, 1) := by decide +kernel
theorem dX11_textLength_16 : decode cX11_textLength 16 = .ok (.iload_n 1, 1) := by decide +kernel
theorem dX11_textLength_17 : decode cX11_textLength 17 = .ok (.invokevirtual 200, 3) := by decide +kernel
theorem dX11_textLength_20 : decode cX11_textLength 20 = .ok (.invokevirtual 203, 3) := by decide +kernel
theorem dX11_textLength_23 : decode cX11_textLength 23 = .ok (.goto 4, 3) := by decide +kernel
theorem dX11_textLength_26 : decode cX11_textLength 26 = .ok (.iconst (-1), 1) := by decide +kernel
theorem dX11_textLength_27 : decode cX11_textLength 27 = .ok (.ireturn, 1) := by decide +kernel
def wo_X11_textLength : List Cond := [.fieldLink RX11 27 "DynamicLogicProver" "formulas" "LDynamicLogicProver$Shelf;", .methodLink RX11 196 yX9_has, .instanceMethod yX9_has, .selects RX9 yX9_has yX9_has, .initialized RX9]
def wd_X11_textLength : List Cond := .code yX11_textLength cX11_textLength 2 (some .int) :: (wo_X11_textLength ++ (wd_X9_has0 ++ (wsX110 ++ ([] : List Cond))))
theorem mo_X11_textLength {w : Cond} (i : Nat) (h : wo_X11_textLength[i]? = some w) : w ∈ wd_X11_textLength := List.mem_cons_of_mem _ (List.mem_append_left _ (List.mem_of_getElem? h))
theorem mb_X11_textLength_0 : ∀ w ∈ wd_X9_has0, w ∈ wd_X11_textLength := fun w h => List.mem_cons_of_mem _ (List.mem_append_right _ (List.mem_append_left _ h))
theorem mb_X11_textLength_1 : ∀ w ∈ wsX110, w ∈ wd_X11_textLength := fun w h => List.mem_cons_of_mem _ (List.mem_append_right _ (List.mem_append_right _ (List.mem_append_left _ h)))
theorem hd_X11_textLength : yX11_textLength.cls ≠ "java/lang/invoke/MethodHandle" ∧ yX11_textLength.cls ≠ "java/lang/invoke/VarHandle" ∧ (parseMethodDescriptor yX11_textLength.desc).map (fun d => d.parameters.length) = some 1 := by decide +kernel
set_option maxRecDepth 20000 in
theorem gw_X11_textLength : wd_X11_textLength.all goodWord = true := by decide +kernel
abbrev qc_X11_textLength (D : va_G) (x : Nat) (mo : Nat) (sm : Nat) (sc : Nat) (fo : Nat) (sf : Nat) (bu : Nat) (po : Nat) (te : Nat) (pa : Nat) (rw : Nat) (tr : Nat) (cl : Nat) (pt : Nat) (ru : Nat) (de : Nat) (fa : Nat) (fb : Nat) (fd : Nat) (g1 : Int32) (A : Nat → Prop) : Array Value → State → Outcome → State → Prop := va_Qi (fun (r : Int32) (uZ : Unit) => r = (-1)) (fun uZ tZ => kc_pos D A [] [] tZ) A
set_option maxHeartbeats 4000000 in
set_option maxRecDepth 100000 in
theorem ct_X11_textLength (l : Launch) (D : va_G) (x : Nat) (mo : Nat) (sm : Nat) (sc : Nat) (fo : Nat) (sf : Nat) (bu : Nat) (po : Nat) (te : Nat) (pa : Nat) (rw : Nat) (tr : Nat) (cl : Nat) (pt : Nat) (ru : Nat) (de : Nat) (fa : Nat) (fb : Nat) (fd : Nat) (g1 : Int32) (sz : Nat)  : Met l yX11_textLength wd_X11_textLength ({ frames := 1, cells := 0, slots := 0, locals := 21 }) (va_Pc [.ref x, .int g1] (kc_pre D [] [(x, .inr (11, [.ref mo, .ref sm, .ref sc, .ref fo, .ref sf, .ref bu, .ref po, .ref te, .ref pa, .ref rw, .ref tr, .ref cl, .ref pt, .ref ru, .ref de, .int 0, .int 0])), (fo, .inr (9, [.ref fa, .ref fb, .ref fd, .int 0]))] sz)) (qc_X11_textLength D x mo sm sc fo sf bu po te pa rw tr cl pt ru de fa fb fd g1 (va_A [(x, .inr (11, [.ref mo, .ref sm, .ref sc, .ref fo, .ref sf, .ref bu, .ref po, .ref te, .ref pa, .ref rw, .ref tr, .ref cl, .ref pt, .ref ru, .ref de, .int 0, .int 0])), (fo, .inr (9, [.ref fa, .ref fb, .ref fd, .int 0]))] sz)) 0 0 (va_A [(x, .inr (11, [.ref mo, .ref sm, .ref sc, .ref fo, .ref sf, .ref bu, .ref po, .ref te, .ref pa, .ref rw, .ref tr, .ref cl, .ref pt, .ref ru, .ref de, .int 0, .int 0])), (fo, .inr (9, [.ref fa, .ref fb, .ref fd, .int 0]))] sz) := by
  refine Met.ofW (cc := cX11_textLength) (maxL := 2) (ret := (some .int)) (by decide) rfl ?_
  intro p e s m args below meth c s₁ B hml hv
  obtain ⟨rfl, hsz, hP, hK, hN, hD0⟩ := hv
  have hx := B.exec
  have hb := B.bytes
  have hr := B.returns
  have hts := atoms_spec (ws := wd_X11_textLength) B.pre
  have hown : s.vm.findClass RX11 = some m.cls := findClass_of_methodNamed B.named
  have hlocks := B.notSynchronized
  subst hsz
  have hD := hD0.self (sz := s.heap.size)
  generalize hAe : va_A [(x, .inr (11, [.ref mo, .ref sm, .ref sc, .ref fo, .ref sf, .ref bu, .ref po, .ref te, .ref pa, .ref rw, .ref tr, .ref cl, .ref pt, .ref ru, .ref de, .int 0, .int 0])), (fo, .inr (9, [.ref fa, .ref fb, .ref fd, .int 0]))] s.heap.size = A at hD ⊢
  have hA : ∀ q : Nat, s.heap.size ≤ q → A q := fun q h => by rw [← hAe]; exact Or.inr h
  have hS : va_S A s.heap s.heap [] := va_S.rf
  have hiX11 : ∀ w ∈ wsX110, w ∈ wd_X11_textLength := mb_X11_textLength_1
  have hl := lv_entry ([.ref x, .int g1]) (n := 2) (Nat.le_of_ble_eq_true rfl)
  rw [lg_entry_eq]
  generalize (lg_sl ([.ref x, .int g1]) ++ List.replicate (2 - (lg_sl ([.ref x, .int g1])).length) Slot.unset).toArray = ls at hl ⊢
  have hl : lv_has ls 2 [(0, .ref x), (1, .int g1)] := hl
  refine lv_aload_n hx hb dX11_textLength_0 rfl (lv_at hl 0 rfl) ?_
  refine va_get (D := D) (ci := 11) (v := .ref fo) (C := RX11) (T := TX11) (N := 17) hx hb hts hiX11 hown hK hP 0 rfl rfl 3 (by decide) (hts (.fieldLink RX11 27 "DynamicLogicProver" "formulas" "LDynamicLogicProver$Shelf;") (mo_X11_textLength 0 rfl)) (fun _ h9 => h9) rfl dX11_textLength_1 ?_
  refine lv_iload_n hx hb dX11_textLength_4 rfl (lv_at hl 1 rfl) ?_
  refine kc_Vi (As := [.int g1]) (rest := []) (wr := [(x, .inr (11, [.ref mo, .ref sm, .ref sc, .ref fo, .ref sf, .ref bu, .ref po, .ref te, .ref pa, .ref rw, .ref tr, .ref cl, .ref pt, .ref ru, .ref de, .int 0, .int 0]))]) ⟨hx, hb, hml, hown, hts⟩ (ct_X9_has0 l D fo fa fb fd g1 _ ) (cwV 1 hts (kg_V (mo_X11_textLength 1 rfl) (mo_X11_textLength 2 rfl) (mo_X11_textLength 3 rfl) (mo_X11_textLength 4 rfl) (goodIn_sub mb_X11_textLength_0 gw_X9_has0)) rfl rfl rfl ⟨rfl, hd_X9_has⟩ ⟨Nat.le_of_ble_eq_true rfl, Nat.le_of_ble_eq_true rfl⟩) (RX9, TX9, 4) 9 1 rfl rfl rfl hK hN hP hD hS hA [1] [0] [] rfl rfl (by decide) (by decide) (by decide) rfl rfl hl.1 rfl (Nat.le_of_ble_eq_true rfl) dX11_textLength_5 ⟨Nat.le_of_ble_eq_true rfl, Nat.le_of_ble_eq_true rfl⟩ (fun r_1 u_2 H locs w_3 hP hD hK1 hS => ?_)
  have hP : va_P D vwCl [(x, .inr (11, [.ref mo, .ref sm, .ref sc, .ref fo, .ref sf, .ref bu, .ref po, .ref te, .ref pa, .ref rw, .ref tr, .ref cl, .ref pt, .ref ru, .ref de, .int 0, .int 0])), (fo, .inr (9, [.ref fa, .ref fb, .ref fd, .int 0]))] H := hP
  have hD : va_D A [(x, .inr (11, [.ref mo, .ref sm, .ref sc, .ref fo, .ref sf, .ref bu, .ref po, .ref te, .ref pa, .ref rw, .ref tr, .ref cl, .ref pt, .ref ru, .ref de, .int 0, .int 0])), (fo, .inr (9, [.ref fa, .ref fb, .ref fd, .int 0]))] := hD
  have w_3 : r_1 = 0 := w_3
  subst w_3
  refine lv_if_eq (tgt := 26) hx hb dX11_textLength_8 (by decide) (fun c_4 => ?_) (fun c_4 => ?_)
  · refine lv_iconst (v := (-1)) hx hb dX11_textLength_26 (by decide) ?_
    have hP9 := hP.sub (ws' := []) [] rfl
    have hD9 := hD.sub (ws' := []) [] (by decide) rfl
    have hK9 := hK.sub (tys' := []) [] rfl
    exact W.iret (v := (-1)) hx hb hr (fun tZ htZ hW => ⟨⟨(-1), (), rfl, rfl, by rw [htZ]; exact hP9, va_K.moved hW.alike hK9, hD9⟩, hS.F htZ⟩) hS.2.2 dX11_textLength_27
  · exact absurd c_4 (by decide)
theorem dX11_textChar_0 : decode cX11_textChar 0 = .ok (.aload_n 0, 1) := by decide +kernel
theorem dX11_textChar_1 : decode cX11_textChar 1 = .ok (.getfield 27, 3) := by decide +kernel
theorem dX11_textChar_4 : decode cX11_textChar 4 = .ok (.iload_n 1, 1) := by decide +kernel
theorem dX11_textChar_5 : decode cX11_textChar 5 = .ok (.invokevirtual 196, 3) := by decide +kernel
theorem dX11_textChar_8 : decode cX11_textChar 8 = .ok (.ifCond .ne 5, 3) := by decide +kernel
theorem dX11_textChar_11 : decode cX11_textChar 11 = .ok (.iconst (-1), 1) := by decide +kernel
theorem dX11_textChar_12 : decode cX11_textChar 12 = .ok (.ireturn, 1) := by decide +kernel
theorem dX11_textChar_13 : decode cX11_textChar 13 = .ok (.aload_n 0, 1) := by decide +kernel
theorem dX11_textChar_14 : decode cX11_textChar 14 = .ok (.iload_n 1, 1) := by decide +kernel
theorem dX11_textChar_15 : decode cX11_textChar 15 = .ok (.invokevirtual 200, 3) := by decide +kernel
theorem dX11_textChar_18 : decode cX11_textChar 18 = .ok (.istore_n 3, 1) := by decide +kernel
theorem dX11_textChar_19 : decode cX11_textChar 19 = .ok (.iload_n 2, 1) := by decide +kernel
theorem dX11_textChar_20 : decode cX11_textChar 20 = .ok (.ifCond .lt 15, 3) := by decide +kernel
theorem dX11_textChar_23 : decode cX11_textChar 23 = .ok (.iload_n 2, 1) := by decide +kernel
theorem dX11_textChar_24 : decode cX11_textChar 24 = .ok (.aload_n 0, 1) := by decide +kernel
theorem dX11_textChar_25 : decode cX11_textChar 25 = .ok (.getfield 44, 3) := by decide +kernel
theorem dX11_textChar_28 : decode cX11_textChar 28 = .ok (.iload_n 3, 1) := by decide +kernel
theorem dX11_textChar_29 : decode cX11_textChar 29 = .ok (.invokevirtual 203, 3) := by decide +kernel
theorem dX11_textChar_32 : decode cX11_textChar 32 = .ok (.if_icmp .lt 8, 3) := by decide +kernel
theorem dX11_textChar_35 : decode cX11_textChar 35 = .ok (.bipush (-5), 2) := by decide +kernel
theorem dX11_textChar_37 : decode cX11_textChar 37 = .ok (.goto 12, 3) := by decide +kernel
theorem dX11_textChar_40 : decode cX11_textChar 40 = .ok (.aload_n 0, 1) := by decide +kernel
theorem dX11_textChar_41 : decode cX11_textChar 41 = .ok (.getfield 44, 3) := by decide +kernel
theorem dX11_textChar_44 : decode cX11_textChar 44 = .ok (.iload_n 3, 1) := by decide +kernel
theorem dX11_textChar_45 : decode cX11_textChar 45 = .ok (.iload_n 2, 1) := by decide +kernel
theorem dX11_textChar_46 : decode cX11_textChar 46 = .ok (.invokevirtual 206, 3) := by decide +kernel
theorem dX11_textChar_49 : decode cX11_textChar 49 = .ok (.ireturn, 1) := by decide +kernel
def wo_X11_textChar : List Cond := [.fieldLink RX11 27 "DynamicLogicProver" "formulas" "LDynamicLogicProver$Shelf;", .methodLink RX11 196 yX9_has, .instanceMethod yX9_has, .selects RX9 yX9_has yX9_has, .initialized RX9]
def wd_X11_textChar : List Cond := .code yX11_textChar cX11_textChar 4 (some .int) :: (wo_X11_textChar ++ (wd_X9_has0 ++ (wsX110 ++ ([] : List Cond))))
theorem mo_X11_textChar {w : Cond} (i : Nat) (h : wo_X11_textChar[i]? = some w) : w ∈ wd_X11_textChar := List.mem_cons_of_mem _ (List.mem_append_left _ (List.mem_of_getElem? h))
theorem mb_X11_textChar_0 : ∀ w ∈ wd_X9_has0, w ∈ wd_X11_textChar := fun w h => List.mem_cons_of_mem _ (List.mem_append_right _ (List.mem_append_left _ h))
theorem mb_X11_textChar_1 : ∀ w ∈ wsX110, w ∈ wd_X11_textChar := fun w h => List.mem_cons_of_mem _ (List.mem_append_right _ (List.mem_append_right _ (List.mem_append_left _ h)))
theorem hd_X11_textChar : yX11_textChar.cls ≠ "java/lang/invoke/MethodHandle" ∧ yX11_textChar.cls ≠ "java/lang/invoke/VarHandle" ∧ (parseMethodDescriptor yX11_textChar.desc).map (fun d => d.parameters.length) = some 2 := by decide +kernel
set_option maxRecDepth 20000 in
theorem gw_X11_textChar : wd_X11_textChar.all goodWord = true := by decide +kernel
abbrev qc_X11_textChar (D : va_G) (x : Nat) (mo : Nat) (sm : Nat) (sc : Nat) (fo : Nat) (sf : Nat) (bu : Nat) (po : Nat) (te : Nat) (pa : Nat) (rw : Nat) (tr : Nat) (cl : Nat) (pt : Nat) (ru : Nat) (de : Nat) (fa : Nat) (fb : Nat) (fd : Nat) (g1 : Int32) (g2 : Int32) (A : Nat → Prop) : Array Value → State → Outcome → State → Prop := va_Qi (fun (r : Int32) (uZ : Unit) => r = (-1)) (fun uZ tZ => kc_pos D A [] [] tZ) A
set_option maxHeartbeats 4000000 in
set_option maxRecDepth 100000 in
theorem ct_X11_textChar (l : Launch) (D : va_G) (x : Nat) (mo : Nat) (sm : Nat) (sc : Nat) (fo : Nat) (sf : Nat) (bu : Nat) (po : Nat) (te : Nat) (pa : Nat) (rw : Nat) (tr : Nat) (cl : Nat) (pt : Nat) (ru : Nat) (de : Nat) (fa : Nat) (fb : Nat) (fd : Nat) (g1 : Int32) (g2 : Int32) (sz : Nat)  : Met l yX11_textChar wd_X11_textChar ({ frames := 1, cells := 0, slots := 0, locals := 21 }) (va_Pc [.ref x, .int g1, .int g2] (kc_pre D [] [(x, .inr (11, [.ref mo, .ref sm, .ref sc, .ref fo, .ref sf, .ref bu, .ref po, .ref te, .ref pa, .ref rw, .ref tr, .ref cl, .ref pt, .ref ru, .ref de, .int 0, .int 0])), (fo, .inr (9, [.ref fa, .ref fb, .ref fd, .int 0]))] sz)) (qc_X11_textChar D x mo sm sc fo sf bu po te pa rw tr cl pt ru de fa fb fd g1 g2 (va_A [(x, .inr (11, [.ref mo, .ref sm, .ref sc, .ref fo, .ref sf, .ref bu, .ref po, .ref te, .ref pa, .ref rw, .ref tr, .ref cl, .ref pt, .ref ru, .ref de, .int 0, .int 0])), (fo, .inr (9, [.ref fa, .ref fb, .ref fd, .int 0]))] sz)) 0 0 (va_A [(x, .inr (11, [.ref mo, .ref sm, .ref sc, .ref fo, .ref sf, .ref bu, .ref po, .ref te, .ref pa, .ref rw, .ref tr, .ref cl, .ref pt, .ref ru, .ref de, .int 0, .int 0])), (fo, .inr (9, [.ref fa, .ref fb, .ref fd, .int 0]))] sz) := by
  refine Met.ofW (cc := cX11_textChar) (maxL := 4) (ret := (some .int)) (by decide) rfl ?_
  intro p e s m args below meth c s₁ B hml hv
  obtain ⟨rfl, hsz, hP, hK, hN, hD0⟩ := hv
  have hx := B.exec
  have hb := B.bytes
  have hr := B.returns
  have hts := atoms_spec (ws := wd_X11_textChar) B.pre
  have hown : s.vm.findClass RX11 = some m.cls := findClass_of_methodNamed B.named
  have hlocks := B.notSynchronized
  subst hsz
  have hD := hD0.self (sz := s.heap.size)
  generalize hAe : va_A [(x, .inr (11, [.ref mo, .ref sm, .ref sc, .ref fo, .ref sf, .ref bu, .ref po, .ref te, .ref pa, .ref rw, .ref tr, .ref cl, .ref pt, .ref ru, .ref de, .int 0, .int 0])), (fo, .inr (9, [.ref fa, .ref fb, .ref fd, .int 0]))] s.heap.size = A at hD ⊢
  have hA : ∀ q : Nat, s.heap.size ≤ q → A q := fun q h => by rw [← hAe]; exact Or.inr h
  have hS : va_S A s.heap s.heap [] := va_S.rf
  have hiX11 : ∀ w ∈ wsX110, w ∈ wd_X11_textChar := mb_X11_textChar_1
  have hl := lv_entry ([.ref x, .int g1, .int g2]) (n := 4) (Nat.le_of_ble_eq_true rfl)
  rw [lg_entry_eq]
  generalize (lg_sl ([.ref x, .int g1, .int g2]) ++ List.replicate (4 - (lg_sl ([.ref x, .int g1, .int g2])).length) Slot.unset).toArray = ls at hl ⊢
  have hl : lv_has ls 4 [(0, .ref x), (1, .int g1), (2, .int g2)] := hl
  refine lv_aload_n hx hb dX11_textChar_0 rfl (lv_at hl 0 rfl) ?_
  refine va_get (D := D) (ci := 11) (v := .ref fo) (C := RX11) (T := TX11) (N := 17) hx hb hts hiX11 hown hK hP 0 rfl rfl 3 (by decide) (hts (.fieldLink RX11 27 "DynamicLogicProver" "formulas" "LDynamicLogicProver$Shelf;") (mo_X11_textChar 0 rfl)) (fun _ h9 => h9) rfl dX11_textChar_1 ?_
  refine lv_iload_n hx hb dX11_textChar_4 rfl (lv_at hl 1 rfl) ?_
  refine kc_Vi (As := [.int g1]) (rest := []) (wr := [(x, .inr (11, [.ref mo, .ref sm, .ref sc, .ref fo, .ref sf, .ref bu, .ref po, .ref te, .ref pa, .ref rw, .ref tr, .ref cl, .ref pt, .ref ru, .ref de, .int 0, .int 0]))]) ⟨hx, hb, hml, hown, hts⟩ (ct_X9_has0 l D fo fa fb fd g1 _ ) (cwV 1 hts (kg_V (mo_X11_textChar 1 rfl) (mo_X11_textChar 2 rfl) (mo_X11_textChar 3 rfl) (mo_X11_textChar 4 rfl) (goodIn_sub mb_X11_textChar_0 gw_X9_has0)) rfl rfl rfl ⟨rfl, hd_X9_has⟩ ⟨Nat.le_of_ble_eq_true rfl, Nat.le_of_ble_eq_true rfl⟩) (RX9, TX9, 4) 9 1 rfl rfl rfl hK hN hP hD hS hA [1] [0] [] rfl rfl (by decide) (by decide) (by decide) rfl rfl hl.1 rfl (Nat.le_of_ble_eq_true rfl) dX11_textChar_5 ⟨Nat.le_of_ble_eq_true rfl, Nat.le_of_ble_eq_true rfl⟩ (fun r_1 u_2 H locs w_3 hP hD hK1 hS => ?_)
  have hP : va_P D vwCl [(x, .inr (11, [.ref mo, .ref sm, .ref sc, .ref fo, .ref sf, .ref bu, .ref po, .ref te, .ref pa, .ref rw, .ref tr, .ref cl, .ref pt, .ref ru, .ref de, .int 0, .int 0])), (fo, .inr (9, [.ref fa, .ref fb, .ref fd, .int 0]))] H := hP
  have hD : va_D A [(x, .inr (11, [.ref mo, .ref sm, .ref sc, .ref fo, .ref sf, .ref bu, .ref po, .ref te, .ref pa, .ref rw, .ref tr, .ref cl, .ref pt, .ref ru, .ref de, .int 0, .int 0])), (fo, .inr (9, [.ref fa, .ref fb, .ref fd, .int 0]))] := hD
  have w_3 : r_1 = 0 := w_3
  subst w_3
  refine lv_if_ne (tgt := 13) hx hb dX11_textChar_8 (by decide) (fun c_4 => ?_) (fun c_4 => ?_)
  · exact absurd c_4 (by decide)
  · refine lv_iconst (v := (-1)) hx hb dX11_textChar_11 (by decide) ?_
    have hP9 := hP.sub (ws' := []) [] rfl
    have hD9 := hD.sub (ws' := []) [] (by decide) rfl
    have hK9 := hK.sub (tys' := []) [] rfl
    exact W.iret (v := (-1)) hx hb hr (fun tZ htZ hW => ⟨⟨(-1), (), rfl, rfl, by rw [htZ]; exact hP9, va_K.moved hW.alike hK9, hD9⟩, hS.F htZ⟩) hS.2.2 dX11_textChar_12
theorem dX11_compareFormulas_0 : decode cX11_compareFormulas 0 = .ok (.aload_n 0, 1) := by decide +kernel
theorem dX11_compareFormulas_1 : decode cX11_compareFormulas 1 = .ok (.getfield 27, 3) := by decide +kernel
theorem dX11_compareFormulas_4 : decode cX11_compareFormulas 4 = .ok (.iload_n 1, 1) := by decide +kernel
theorem dX11_compareFormulas_5 : decode cX11_compareFormulas 5 = .ok (.invokevirtual 196, 3) := by decide +kernel
theorem dX11_compareFormulas_8 : decode cX11_compareFormulas 8 = .ok (.ifCond .eq 14, 3) := by decide +kernel
theorem dX11_compareFormulas_11 : decode cX11_compareFormulas 11 = .ok (.aload_n 0, 1) := by decide +kernel
theorem dX11_compareFormulas_12 : decode cX11_compareFormulas 12 = .ok (.getfield 27, 3) := by decide +kernel
theorem dX11_compareFormulas_15 : decode cX11_compareFormulas 15 = .ok (.iload_n 2, 1) := by decide +kernel
theorem dX11_compareFormulas_16 : decode cX11_compareFormulas 16 = .ok (.invokevirtual 196, 3) := by decide +kernel
theorem dX11_compareFormulas_19 : decode cX11_compareFormulas 19 = .ok (.ifCond .ne 5, 3) := by decide +kernel
theorem dX11_compareFormulas_22 : decode cX11_compareFormulas 22 = .ok (.iconst (-1), 1) := by decide +kernel
theorem dX11_compareFormulas_23 : decode cX11_compareFormulas 23 = .ok (.ireturn, 1) := by decide +kernel
theorem dX11_compareFormulas_24 : decode cX11_compareFormulas 24 = .ok (.aload_n 0, 1) := by decide +kernel
theorem dX11_compareFormulas_25 : decode cX11_compareFormulas 25 = .ok (.iload_n 1, 1) := by decide +kernel
theorem dX11_compareFormulas_26 : decode cX11_compareFormulas 26 = .ok (.invokevirtual 200, 3) := by decide +kernel
theorem dX11_compareFormulas_29 : decode cX11_compareFormulas 29 = .ok (.istore_n 3, 1) := by decide +kernel
theorem dX11_compareFormulas_30 : decode cX11_compareFormulas 30 = .ok (.iconst 1, 1) := by decide +kernel
theorem dX11_compareFormulas_31 : decode cX11_compareFormulas 31 = .ok (.aload_n 0, 1) := by decide +kernel
theorem dX11_compareFormulas_32 : decode cX11_compareFormulas 32 = .ok (.getfield 44, 3) := by decide +kernel
theorem dX11_compareFormulas_35 : decode cX11_compareFormulas 35 = .ok (.iload_n 3, 1) := by decide +kernel
theorem dX11_compareFormulas_36 : decode cX11_compareFormulas 36 = .ok (.aload_n 0, 1) := by decide +kernel
theorem dX11_compareFormulas_37 : decode cX11_compareFormulas 37 = .ok (.getfield 27, 3) := by decide +kernel
theorem dX11_compareFormulas_40 : decode cX11_compareFormulas 40 = .ok (.iload_n 2, 1) := by decide +kernel
theorem dX11_compareFormulas_41 : decode cX11_compareFormulas 41 = .ok (.aload_n 0, 1) := by decide +kernel
theorem dX11_compareFormulas_42 : decode cX11_compareFormulas 42 = .ok (.getfield 44, 3) := by decide +kernel
theorem dX11_compareFormulas_45 : decode cX11_compareFormulas 45 = .ok (.invokevirtual 209, 3) := by decide +kernel
theorem dX11_compareFormulas_48 : decode cX11_compareFormulas 48 = .ok (.invokevirtual 213, 3) := by decide +kernel
theorem dX11_compareFormulas_51 : decode cX11_compareFormulas 51 = .ok (.iadd, 1) := by decide +kernel
theorem dX11_compareFormulas_52 : decode cX11_compareFormulas 52 = .ok (.ireturn, 1) := by decide +kernel
def wo_X11_compareFormulas : List Cond := [.fieldLink RX11 27 "DynamicLogicProver" "formulas" "LDynamicLogicProver$Shelf;", .methodLink RX11 196 yX9_has, .instanceMethod yX9_has, .selects RX9 yX9_has yX9_has, .initialized RX9]
def wd_X11_compareFormulas : List Cond := .code yX11_compareFormulas cX11_compareFormulas 4 (some .int) :: (wo_X11_compareFormulas ++ (wd_X9_has0 ++ (wsX110 ++ ([] : List Cond))))
theorem mo_X11_compareFormulas {w : Cond} (i : Nat) (h : wo_X11_compareFormulas[i]? = some w) : w ∈ wd_X11_compareFormulas := List.mem_cons_of_mem _ (List.mem_append_left _ (List.mem_of_getElem? h))
theorem mb_X11_compareFormulas_0 : ∀ w ∈ wd_X9_has0, w ∈ wd_X11_compareFormulas := fun w h => List.mem_cons_of_mem _ (List.mem_append_right _ (List.mem_append_left _ h))
theorem mb_X11_compareFormulas_1 : ∀ w ∈ wsX110, w ∈ wd_X11_compareFormulas := fun w h => List.mem_cons_of_mem _ (List.mem_append_right _ (List.mem_append_right _ (List.mem_append_left _ h)))
theorem hd_X11_compareFormulas : yX11_compareFormulas.cls ≠ "java/lang/invoke/MethodHandle" ∧ yX11_compareFormulas.cls ≠ "java/lang/invoke/VarHandle" ∧ (parseMethodDescriptor yX11_compareFormulas.desc).map (fun d => d.parameters.length) = some 2 := by decide +kernel
set_option maxRecDepth 20000 in
theorem gw_X11_compareFormulas : wd_X11_compareFormulas.all goodWord = true := by decide +kernel
abbrev qc_X11_compareFormulas (D : va_G) (x : Nat) (mo : Nat) (sm : Nat) (sc : Nat) (fo : Nat) (sf : Nat) (bu : Nat) (po : Nat) (te : Nat) (pa : Nat) (rw : Nat) (tr : Nat) (cl : Nat) (pt : Nat) (ru : Nat) (de : Nat) (fa : Nat) (fb : Nat) (fd : Nat) (g1 : Int32) (g2 : Int32) (A : Nat → Prop) : Array Value → State → Outcome → State → Prop := va_Qi (fun (r : Int32) (uZ : Unit) => r = (-1)) (fun uZ tZ => kc_pos D A [] [] tZ) A
set_option maxHeartbeats 4000000 in
set_option maxRecDepth 100000 in
theorem ct_X11_compareFormulas (l : Launch) (D : va_G) (x : Nat) (mo : Nat) (sm : Nat) (sc : Nat) (fo : Nat) (sf : Nat) (bu : Nat) (po : Nat) (te : Nat) (pa : Nat) (rw : Nat) (tr : Nat) (cl : Nat) (pt : Nat) (ru : Nat) (de : Nat) (fa : Nat) (fb : Nat) (fd : Nat) (g1 : Int32) (g2 : Int32) (sz : Nat)  : Met l yX11_compareFormulas wd_X11_compareFormulas ({ frames := 1, cells := 0, slots := 0, locals := 21 }) (va_Pc [.ref x, .int g1, .int g2] (kc_pre D [] [(x, .inr (11, [.ref mo, .ref sm, .ref sc, .ref fo, .ref sf, .ref bu, .ref po, .ref te, .ref pa, .ref rw, .ref tr, .ref cl, .ref pt, .ref ru, .ref de, .int 0, .int 0])), (fo, .inr (9, [.ref fa, .ref fb, .ref fd, .int 0]))] sz)) (qc_X11_compareFormulas D x mo sm sc fo sf bu po te pa rw tr cl pt ru de fa fb fd g1 g2 (va_A [(x, .inr (11, [.ref mo, .ref sm, .ref sc, .ref fo, .ref sf, .ref bu, .ref po, .ref te, .ref pa, .ref rw, .ref tr, .ref cl, .ref pt, .ref ru, .ref de, .int 0, .int 0])), (fo, .inr (9, [.ref fa, .ref fb, .ref fd, .int 0]))] sz)) 0 0 (va_A [(x, .inr (11, [.ref mo, .ref sm, .ref sc, .ref fo, .ref sf, .ref bu, .ref po, .ref te, .ref pa, .ref rw, .ref tr, .ref cl, .ref pt, .ref ru, .ref de, .int 0, .int 0])), (fo, .inr (9, [.ref fa, .ref fb, .ref fd, .int 0]))] sz) := by
  refine Met.ofW (cc := cX11_compareFormulas) (maxL := 4) (ret := (some .int)) (by decide) rfl ?_
  intro p e s m args below meth c s₁ B hml hv
  obtain ⟨rfl, hsz, hP, hK, hN, hD0⟩ := hv
  have hx := B.exec
  have hb := B.bytes
  have hr := B.returns
  have hts := atoms_spec (ws := wd_X11_compareFormulas) B.pre
  have hown : s.vm.findClass RX11 = some m.cls := findClass_of_methodNamed B.named
  have hlocks := B.notSynchronized
  subst hsz
  have hD := hD0.self (sz := s.heap.size)
  generalize hAe : va_A [(x, .inr (11, [.ref mo, .ref sm, .ref sc, .ref fo, .ref sf, .ref bu, .ref po, .ref te, .ref pa, .ref rw, .ref tr, .ref cl, .ref pt, .ref ru, .ref de, .int 0, .int 0])), (fo, .inr (9, [.ref fa, .ref fb, .ref fd, .int 0]))] s.heap.size = A at hD ⊢
  have hA : ∀ q : Nat, s.heap.size ≤ q → A q := fun q h => by rw [← hAe]; exact Or.inr h
  have hS : va_S A s.heap s.heap [] := va_S.rf
  have hiX11 : ∀ w ∈ wsX110, w ∈ wd_X11_compareFormulas := mb_X11_compareFormulas_1
  have hl := lv_entry ([.ref x, .int g1, .int g2]) (n := 4) (Nat.le_of_ble_eq_true rfl)
  rw [lg_entry_eq]
  generalize (lg_sl ([.ref x, .int g1, .int g2]) ++ List.replicate (4 - (lg_sl ([.ref x, .int g1, .int g2])).length) Slot.unset).toArray = ls at hl ⊢
  have hl : lv_has ls 4 [(0, .ref x), (1, .int g1), (2, .int g2)] := hl
  refine lv_aload_n hx hb dX11_compareFormulas_0 rfl (lv_at hl 0 rfl) ?_
  refine va_get (D := D) (ci := 11) (v := .ref fo) (C := RX11) (T := TX11) (N := 17) hx hb hts hiX11 hown hK hP 0 rfl rfl 3 (by decide) (hts (.fieldLink RX11 27 "DynamicLogicProver" "formulas" "LDynamicLogicProver$Shelf;") (mo_X11_compareFormulas 0 rfl)) (fun _ h9 => h9) rfl dX11_compareFormulas_1 ?_
  refine lv_iload_n hx hb dX11_compareFormulas_4 rfl (lv_at hl 1 rfl) ?_
  refine kc_Vi (As := [.int g1]) (rest := []) (wr := [(x, .inr (11, [.ref mo, .ref sm, .ref sc, .ref fo, .ref sf, .ref bu, .ref po, .ref te, .ref pa, .ref rw, .ref tr, .ref cl, .ref pt, .ref ru, .ref de, .int 0, .int 0]))]) ⟨hx, hb, hml, hown, hts⟩ (ct_X9_has0 l D fo fa fb fd g1 _ ) (cwV 1 hts (kg_V (mo_X11_compareFormulas 1 rfl) (mo_X11_compareFormulas 2 rfl) (mo_X11_compareFormulas 3 rfl) (mo_X11_compareFormulas 4 rfl) (goodIn_sub mb_X11_compareFormulas_0 gw_X9_has0)) rfl rfl rfl ⟨rfl, hd_X9_has⟩ ⟨Nat.le_of_ble_eq_true rfl, Nat.le_of_ble_eq_true rfl⟩) (RX9, TX9, 4) 9 1 rfl rfl rfl hK hN hP hD hS hA [1] [0] [] rfl rfl (by decide) (by decide) (by decide) rfl rfl hl.1 rfl (Nat.le_of_ble_eq_true rfl) dX11_compareFormulas_5 ⟨Nat.le_of_ble_eq_true rfl, Nat.le_of_ble_eq_true rfl⟩ (fun r_1 u_2 H locs w_3 hP hD hK1 hS => ?_)
  have hP : va_P D vwCl [(x, .inr (11, [.ref mo, .ref sm, .ref sc, .ref fo, .ref sf, .ref bu, .ref po, .ref te, .ref pa, .ref rw, .ref tr, .ref cl, .ref pt, .ref ru, .ref de, .int 0, .int 0])), (fo, .inr (9, [.ref fa, .ref fb, .ref fd, .int 0]))] H := hP
  have hD : va_D A [(x, .inr (11, [.ref mo, .ref sm, .ref sc, .ref fo, .ref sf, .ref bu, .ref po, .ref te, .ref pa, .ref rw, .ref tr, .ref cl, .ref pt, .ref ru, .ref de, .int 0, .int 0])), (fo, .inr (9, [.ref fa, .ref fb, .ref fd, .int 0]))] := hD
  have w_3 : r_1 = 0 := w_3
  subst w_3
  refine lv_if_eq (tgt := 22) hx hb dX11_compareFormulas_8 (by decide) (fun c_4 => ?_) (fun c_4 => ?_)
  · refine lv_iconst (v := (-1)) hx hb dX11_compareFormulas_22 (by decide) ?_
    have hP9 := hP.sub (ws' := []) [] rfl
    have hD9 := hD.sub (ws' := []) [] (by decide) rfl
    have hK9 := hK.sub (tys' := []) [] rfl
    exact W.iret (v := (-1)) hx hb hr (fun tZ htZ hW => ⟨⟨(-1), (), rfl, rfl, by rw [htZ]; exact hP9, va_K.moved hW.alike hK9, hD9⟩, hS.F htZ⟩) hS.2.2 dX11_compareFormulas_23
  · exact absurd c_4 (by decide)
theorem dX11_holds_0 : decode cX11_holds 0 = .ok (.aload_n 0, 1) := by decide +kernel
theorem dX11_holds_1 : decode cX11_holds 1 = .ok (.getfield 27, 3) := by decide +kernel
theorem dX11_holds_4 : decode cX11_holds 4 = .ok (.iload_n 1, 1) := by decide +kernel
theorem dX11_holds_5 : decode cX11_holds 5 = .ok (.invokevirtual 196, 3) := by decide +kernel
theorem dX11_holds_8 : decode cX11_holds 8 = .ok (.ifCond .eq 14, 3) := by decide +kernel
theorem dX11_holds_11 : decode cX11_holds 11 = .ok (.aload_n 0, 1) := by decide +kernel
theorem dX11_holds_12 : decode cX11_holds 12 = .ok (.getfield 12, 3) := by decide +kernel
theorem dX11_holds_15 : decode cX11_holds 15 = .ok (.iload_n 2, 1) := by decide +kernel
theorem dX11_holds_16 : decode cX11_holds 16 = .ok (.invokevirtual 125, 3) := by decide +kernel
theorem dX11_holds_19 : decode cX11_holds 19 = .ok (.ifCond .ne 5, 3) := by decide +kernel
theorem dX11_holds_22 : decode cX11_holds 22 = .ok (.iconst (-1), 1) := by decide +kernel
theorem dX11_holds_23 : decode cX11_holds 23 = .ok (.ireturn, 1) := by decide +kernel
theorem dX11_holds_24 : decode cX11_holds 24 = .ok (.aload_n 0, 1) := by decide +kernel
theorem dX11_holds_25 : decode cX11_holds 25 = .ok (.iload_n 1, 1) := by decide +kernel
theorem dX11_holds_26 : decode cX11_holds 26 = .ok (.invokevirtual 216, 3) := by decide +kernel
theorem dX11_holds_29 : decode cX11_holds 29 = .ok (.iload_n 2, 1) := by decide +kernel
theorem dX11_holds_30 : decode cX11_holds 30 = .ok (.ishr, 1) := by decide +kernel
theorem dX11_holds_31 : decode cX11_holds 31 = .ok (.iconst 1, 1) := by decide +kernel
theorem dX11_holds_32 : decode cX11_holds 32 = .ok (.iand, 1) := by decide +kernel
theorem dX11_holds_33 : decode cX11_holds 33 = .ok (.ireturn, 1) := by decide +kernel
def wo_X11_holds : List Cond := [.fieldLink RX11 27 "DynamicLogicProver" "formulas" "LDynamicLogicProver$Shelf;", .methodLink RX11 196 yX9_has, .instanceMethod yX9_has, .selects RX9 yX9_has yX9_has, .initialized RX9]
def wd_X11_holds : List Cond := .code yX11_holds cX11_holds 3 (some .int) :: (wo_X11_holds ++ (wd_X9_has0 ++ (wsX110 ++ ([] : List Cond))))
theorem mo_X11_holds {w : Cond} (i : Nat) (h : wo_X11_holds[i]? = some w) : w ∈ wd_X11_holds := List.mem_cons_of_mem _ (List.mem_append_left _ (List.mem_of_getElem? h))
theorem mb_X11_holds_0 : ∀ w ∈ wd_X9_has0, w ∈ wd_X11_holds := fun w h => List.mem_cons_of_mem _ (List.mem_append_right _ (List.mem_append_left _ h))
theorem mb_X11_holds_1 : ∀ w ∈ wsX110, w ∈ wd_X11_holds := fun w h => List.mem_cons_of_mem _ (List.mem_append_right _ (List.mem_append_right _ (List.mem_append_left _ h)))
theorem hd_X11_holds : yX11_holds.cls ≠ "java/lang/invoke/MethodHandle" ∧ yX11_holds.cls ≠ "java/lang/invoke/VarHandle" ∧ (parseMethodDescriptor yX11_holds.desc).map (fun d => d.parameters.length) = some 2 := by decide +kernel
set_option maxRecDepth 20000 in
theorem gw_X11_holds : wd_X11_holds.all goodWord = true := by decide +kernel
abbrev qc_X11_holds (D : va_G) (x : Nat) (mo : Nat) (sm : Nat) (sc : Nat) (fo : Nat) (sf : Nat) (bu : Nat) (po : Nat) (te : Nat) (pa : Nat) (rw : Nat) (tr : Nat) (cl : Nat) (pt : Nat) (ru : Nat) (de : Nat) (fa : Nat) (fb : Nat) (fd : Nat) (g1 : Int32) (g2 : Int32) (A : Nat → Prop) : Array Value → State → Outcome → State → Prop := va_Qi (fun (r : Int32) (uZ : Unit) => r = (-1)) (fun uZ tZ => kc_pos D A [] [] tZ) A
set_option maxHeartbeats 4000000 in
set_option maxRecDepth 100000 in
theorem ct_X11_holds (l : Launch) (D : va_G) (x : Nat) (mo : Nat) (sm : Nat) (sc : Nat) (fo : Nat) (sf : Nat) (bu : Nat) (po : Nat) (te : Nat) (pa : Nat) (rw : Nat) (tr : Nat) (cl : Nat) (pt : Nat) (ru : Nat) (de : Nat) (fa : Nat) (fb : Nat) (fd : Nat) (g1 : Int32) (g2 : Int32) (sz : Nat)  : Met l yX11_holds wd_X11_holds ({ frames := 1, cells := 0, slots := 0, locals := 21 }) (va_Pc [.ref x, .int g1, .int g2] (kc_pre D [] [(x, .inr (11, [.ref mo, .ref sm, .ref sc, .ref fo, .ref sf, .ref bu, .ref po, .ref te, .ref pa, .ref rw, .ref tr, .ref cl, .ref pt, .ref ru, .ref de, .int 0, .int 0])), (fo, .inr (9, [.ref fa, .ref fb, .ref fd, .int 0]))] sz)) (qc_X11_holds D x mo sm sc fo sf bu po te pa rw tr cl pt ru de fa fb fd g1 g2 (va_A [(x, .inr (11, [.ref mo, .ref sm, .ref sc, .ref fo, .ref sf, .ref bu, .ref po, .ref te, .ref pa, .ref rw, .ref tr, .ref cl, .ref pt, .ref ru, .ref de, .int 0, .int 0])), (fo, .inr (9, [.ref fa, .ref fb, .ref fd, .int 0]))] sz)) 0 0 (va_A [(x, .inr (11, [.ref mo, .ref sm, .ref sc, .ref fo, .ref sf, .ref bu, .ref po, .ref te, .ref pa, .ref rw, .ref tr, .ref cl, .ref pt, .ref ru, .ref de, .int 0, .int 0])), (fo, .inr (9, [.ref fa, .ref fb, .ref fd, .int 0]))] sz) := by
  refine Met.ofW (cc := cX11_holds) (maxL := 3) (ret := (some .int)) (by decide) rfl ?_
  intro p e s m args below meth c s₁ B hml hv
  obtain ⟨rfl, hsz, hP, hK, hN, hD0⟩ := hv
  have hx := B.exec
  have hb := B.bytes
  have hr := B.returns
  have hts := atoms_spec (ws := wd_X11_holds) B.pre
  have hown : s.vm.findClass RX11 = some m.cls := findClass_of_methodNamed B.named
  have hlocks := B.notSynchronized
  subst hsz
  have hD := hD0.self (sz := s.heap.size)
  generalize hAe : va_A [(x, .inr (11, [.ref mo, .ref sm, .ref sc, .ref fo, .ref sf, .ref bu, .ref po, .ref te, .ref pa, .ref rw, .ref tr, .ref cl, .ref pt, .ref ru, .ref de, .int 0, .int 0])), (fo, .inr (9, [.ref fa, .ref fb, .ref fd, .int 0]))] s.heap.size = A at hD ⊢
  have hA : ∀ q : Nat, s.heap.size ≤ q → A q := fun q h => by rw [← hAe]; exact Or.inr h
  have hS : va_S A s.heap s.heap [] := va_S.rf
  have hiX11 : ∀ w ∈ wsX110, w ∈ wd_X11_holds := mb_X11_holds_1
  have hl := lv_entry ([.ref x, .int g1, .int g2]) (n := 3) (Nat.le_of_ble_eq_true rfl)
  rw [lg_entry_eq]
  generalize (lg_sl ([.ref x, .int g1, .int g2]) ++ List.replicate (3 - (lg_sl ([.ref x, .int g1, .int g2])).length) Slot.unset).toArray = ls at hl ⊢
  have hl : lv_has ls 3 [(0, .ref x), (1, .int g1), (2, .int g2)] := hl
  refine lv_aload_n hx hb dX11_holds_0 rfl (lv_at hl 0 rfl) ?_
  refine va_get (D := D) (ci := 11) (v := .ref fo) (C := RX11) (T := TX11) (N := 17) hx hb hts hiX11 hown hK hP 0 rfl rfl 3 (by decide) (hts (.fieldLink RX11 27 "DynamicLogicProver" "formulas" "LDynamicLogicProver$Shelf;") (mo_X11_holds 0 rfl)) (fun _ h9 => h9) rfl dX11_holds_1 ?_
  refine lv_iload_n hx hb dX11_holds_4 rfl (lv_at hl 1 rfl) ?_
  refine kc_Vi (As := [.int g1]) (rest := []) (wr := [(x, .inr (11, [.ref mo, .ref sm, .ref sc, .ref fo, .ref sf, .ref bu, .ref po, .ref te, .ref pa, .ref rw, .ref tr, .ref cl, .ref pt, .ref ru, .ref de, .int 0, .int 0]))]) ⟨hx, hb, hml, hown, hts⟩ (ct_X9_has0 l D fo fa fb fd g1 _ ) (cwV 1 hts (kg_V (mo_X11_holds 1 rfl) (mo_X11_holds 2 rfl) (mo_X11_holds 3 rfl) (mo_X11_holds 4 rfl) (goodIn_sub mb_X11_holds_0 gw_X9_has0)) rfl rfl rfl ⟨rfl, hd_X9_has⟩ ⟨Nat.le_of_ble_eq_true rfl, Nat.le_of_ble_eq_true rfl⟩) (RX9, TX9, 4) 9 1 rfl rfl rfl hK hN hP hD hS hA [1] [0] [] rfl rfl (by decide) (by decide) (by decide) rfl rfl hl.1 rfl (Nat.le_of_ble_eq_true rfl) dX11_holds_5 ⟨Nat.le_of_ble_eq_true rfl, Nat.le_of_ble_eq_true rfl⟩ (fun r_1 u_2 H locs w_3 hP hD hK1 hS => ?_)
  have hP : va_P D vwCl [(x, .inr (11, [.ref mo, .ref sm, .ref sc, .ref fo, .ref sf, .ref bu, .ref po, .ref te, .ref pa, .ref rw, .ref tr, .ref cl, .ref pt, .ref ru, .ref de, .int 0, .int 0])), (fo, .inr (9, [.ref fa, .ref fb, .ref fd, .int 0]))] H := hP
  have hD : va_D A [(x, .inr (11, [.ref mo, .ref sm, .ref sc, .ref fo, .ref sf, .ref bu, .ref po, .ref te, .ref pa, .ref rw, .ref tr, .ref cl, .ref pt, .ref ru, .ref de, .int 0, .int 0])), (fo, .inr (9, [.ref fa, .ref fb, .ref fd, .int 0]))] := hD
  have w_3 : r_1 = 0 := w_3
  subst w_3
  refine lv_if_eq (tgt := 22) hx hb dX11_holds_8 (by decide) (fun c_4 => ?_) (fun c_4 => ?_)
  · refine lv_iconst (v := (-1)) hx hb dX11_holds_22 (by decide) ?_
    have hP9 := hP.sub (ws' := []) [] rfl
    have hD9 := hD.sub (ws' := []) [] (by decide) rfl
    have hK9 := hK.sub (tys' := []) [] rfl
    exact W.iret (v := (-1)) hx hb hr (fun tZ htZ hW => ⟨⟨(-1), (), rfl, rfl, by rw [htZ]; exact hP9, va_K.moved hW.alike hK9, hD9⟩, hS.F htZ⟩) hS.2.2 dX11_holds_23
  · exact absurd c_4 (by decide)
theorem dX11_extension_0 : decode cX11_extension 0 = .ok (.aload_n 0, 1) := by decide +kernel
theorem dX11_extension_1 : decode cX11_extension 1 = .ok (.getfield 27, 3) := by decide +kernel
theorem dX11_extension_4 : decode cX11_extension 4 = .ok (.iload_n 1, 1) := by decide +kernel
theorem dX11_extension_5 : decode cX11_extension 5 = .ok (.invokevirtual 196, 3) := by decide +kernel
theorem dX11_extension_8 : decode cX11_extension 8 = .ok (.ifCond .eq 11, 3) := by decide +kernel
theorem dX11_extension_11 : decode cX11_extension 11 = .ok (.aload_n 0, 1) := by decide +kernel
theorem dX11_extension_12 : decode cX11_extension 12 = .ok (.iload_n 1, 1) := by decide +kernel
theorem dX11_extension_13 : decode cX11_extension 13 = .ok (.invokevirtual 216, 3) := by decide +kernel
theorem dX11_extension_16 : decode cX11_extension 16 = .ok (.goto 4, 3) := by decide +kernel
theorem dX11_extension_19 : decode cX11_extension 19 = .ok (.iconst (-1), 1) := by decide +kernel
theorem dX11_extension_20 : decode cX11_extension 20 = .ok (.ireturn, 1) := by decide +kernel
def wo_X11_extension : List Cond := [.fieldLink RX11 27 "DynamicLogicProver" "formulas" "LDynamicLogicProver$Shelf;", .methodLink RX11 196 yX9_has, .instanceMethod yX9_has, .selects RX9 yX9_has yX9_has, .initialized RX9]
def wd_X11_extension : List Cond := .code yX11_extension cX11_extension 2 (some .int) :: (wo_X11_extension ++ (wd_X9_has0 ++ (wsX110 ++ ([] : List Cond))))
theorem mo_X11_extension {w : Cond} (i : Nat) (h : wo_X11_extension[i]? = some w) : w ∈ wd_X11_extension := List.mem_cons_of_mem _ (List.mem_append_left _ (List.mem_of_getElem? h))
theorem mb_X11_extension_0 : ∀ w ∈ wd_X9_has0, w ∈ wd_X11_extension := fun w h => List.mem_cons_of_mem _ (List.mem_append_right _ (List.mem_append_left _ h))
theorem mb_X11_extension_1 : ∀ w ∈ wsX110, w ∈ wd_X11_extension := fun w h => List.mem_cons_of_mem _ (List.mem_append_right _ (List.mem_append_right _ (List.mem_append_left _ h)))
theorem hd_X11_extension : yX11_extension.cls ≠ "java/lang/invoke/MethodHandle" ∧ yX11_extension.cls ≠ "java/lang/invoke/VarHandle" ∧ (parseMethodDescriptor yX11_extension.desc).map (fun d => d.parameters.length) = some 1 := by decide +kernel
set_option maxRecDepth 20000 in
theorem gw_X11_extension : wd_X11_extension.all goodWord = true := by decide +kernel
abbrev qc_X11_extension (D : va_G) (x : Nat) (mo : Nat) (sm : Nat) (sc : Nat) (fo : Nat) (sf : Nat) (bu : Nat) (po : Nat) (te : Nat) (pa : Nat) (rw : Nat) (tr : Nat) (cl : Nat) (pt : Nat) (ru : Nat) (de : Nat) (fa : Nat) (fb : Nat) (fd : Nat) (g1 : Int32) (A : Nat → Prop) : Array Value → State → Outcome → State → Prop := va_Qi (fun (r : Int32) (uZ : Unit) => r = (-1)) (fun uZ tZ => kc_pos D A [] [] tZ) A
set_option maxHeartbeats 4000000 in
set_option maxRecDepth 100000 in
theorem ct_X11_extension (l : Launch) (D : va_G) (x : Nat) (mo : Nat) (sm : Nat) (sc : Nat) (fo : Nat) (sf : Nat) (bu : Nat) (po : Nat) (te : Nat) (pa : Nat) (rw : Nat) (tr : Nat) (cl : Nat) (pt : Nat) (ru : Nat) (de : Nat) (fa : Nat) (fb : Nat) (fd : Nat) (g1 : Int32) (sz : Nat)  : Met l yX11_extension wd_X11_extension ({ frames := 1, cells := 0, slots := 0, locals := 21 }) (va_Pc [.ref x, .int g1] (kc_pre D [] [(x, .inr (11, [.ref mo, .ref sm, .ref sc, .ref fo, .ref sf, .ref bu, .ref po, .ref te, .ref pa, .ref rw, .ref tr, .ref cl, .ref pt, .ref ru, .ref de, .int 0, .int 0])), (fo, .inr (9, [.ref fa, .ref fb, .ref fd, .int 0]))] sz)) (qc_X11_extension D x mo sm sc fo sf bu po te pa rw tr cl pt ru de fa fb fd g1 (va_A [(x, .inr (11, [.ref mo, .ref sm, .ref sc, .ref fo, .ref sf, .ref bu, .ref po, .ref te, .ref pa, .ref rw, .ref tr, .ref cl, .ref pt, .ref ru, .ref de, .int 0, .int 0])), (fo, .inr (9, [.ref fa, .ref fb, .ref fd, .int 0]))] sz)) 0 0 (va_A [(x, .inr (11, [.ref mo, .ref sm, .ref sc, .ref fo, .ref sf, .ref bu, .ref po, .ref te, .ref pa, .ref rw, .ref tr, .ref cl, .ref pt, .ref ru, .ref de, .int 0, .int 0])), (fo, .inr (9, [.ref fa, .ref fb, .ref fd, .int 0]))] sz) := by
  refine Met.ofW (cc := cX11_extension) (maxL := 2) (ret := (some .int)) (by decide) rfl ?_
  intro p e s m args below meth c s₁ B hml hv
  obtain ⟨rfl, hsz, hP, hK, hN, hD0⟩ := hv
  have hx := B.exec
  have hb := B.bytes
  have hr := B.returns
  have hts := atoms_spec (ws := wd_X11_extension) B.pre
  have hown : s.vm.findClass RX11 = some m.cls := findClass_of_methodNamed B.named
  have hlocks := B.notSynchronized
  subst hsz
  have hD := hD0.self (sz := s.heap.size)
  generalize hAe : va_A [(x, .inr (11, [.ref mo, .ref sm, .ref sc, .ref fo, .ref sf, .ref bu, .ref po, .ref te, .ref pa, .ref rw, .ref tr, .ref cl, .ref pt, .ref ru, .ref de, .int 0, .int 0])), (fo, .inr (9, [.ref fa, .ref fb, .ref fd, .int 0]))] s.heap.size = A at hD ⊢
  have hA : ∀ q : Nat, s.heap.size ≤ q → A q := fun q h => by rw [← hAe]; exact Or.inr h
  have hS : va_S A s.heap s.heap [] := va_S.rf
  have hiX11 : ∀ w ∈ wsX110, w ∈ wd_X11_extension := mb_X11_extension_1
  have hl := lv_entry ([.ref x, .int g1]) (n := 2) (Nat.le_of_ble_eq_true rfl)
  rw [lg_entry_eq]
  generalize (lg_sl ([.ref x, .int g1]) ++ List.replicate (2 - (lg_sl ([.ref x, .int g1])).length) Slot.unset).toArray = ls at hl ⊢
  have hl : lv_has ls 2 [(0, .ref x), (1, .int g1)] := hl
  refine lv_aload_n hx hb dX11_extension_0 rfl (lv_at hl 0 rfl) ?_
  refine va_get (D := D) (ci := 11) (v := .ref fo) (C := RX11) (T := TX11) (N := 17) hx hb hts hiX11 hown hK hP 0 rfl rfl 3 (by decide) (hts (.fieldLink RX11 27 "DynamicLogicProver" "formulas" "LDynamicLogicProver$Shelf;") (mo_X11_extension 0 rfl)) (fun _ h9 => h9) rfl dX11_extension_1 ?_
  refine lv_iload_n hx hb dX11_extension_4 rfl (lv_at hl 1 rfl) ?_
  refine kc_Vi (As := [.int g1]) (rest := []) (wr := [(x, .inr (11, [.ref mo, .ref sm, .ref sc, .ref fo, .ref sf, .ref bu, .ref po, .ref te, .ref pa, .ref rw, .ref tr, .ref cl, .ref pt, .ref ru, .ref de, .int 0, .int 0]))]) ⟨hx, hb, hml, hown, hts⟩ (ct_X9_has0 l D fo fa fb fd g1 _ ) (cwV 1 hts (kg_V (mo_X11_extension 1 rfl) (mo_X11_extension 2 rfl) (mo_X11_extension 3 rfl) (mo_X11_extension 4 rfl) (goodIn_sub mb_X11_extension_0 gw_X9_has0)) rfl rfl rfl ⟨rfl, hd_X9_has⟩ ⟨Nat.le_of_ble_eq_true rfl, Nat.le_of_ble_eq_true rfl⟩) (RX9, TX9, 4) 9 1 rfl rfl rfl hK hN hP hD hS hA [1] [0] [] rfl rfl (by decide) (by decide) (by decide) rfl rfl hl.1 rfl (Nat.le_of_ble_eq_true rfl) dX11_extension_5 ⟨Nat.le_of_ble_eq_true rfl, Nat.le_of_ble_eq_true rfl⟩ (fun r_1 u_2 H locs w_3 hP hD hK1 hS => ?_)
  have hP : va_P D vwCl [(x, .inr (11, [.ref mo, .ref sm, .ref sc, .ref fo, .ref sf, .ref bu, .ref po, .ref te, .ref pa, .ref rw, .ref tr, .ref cl, .ref pt, .ref ru, .ref de, .int 0, .int 0])), (fo, .inr (9, [.ref fa, .ref fb, .ref fd, .int 0]))] H := hP
  have hD : va_D A [(x, .inr (11, [.ref mo, .ref sm, .ref sc, .ref fo, .ref sf, .ref bu, .ref po, .ref te, .ref pa, .ref rw, .ref tr, .ref cl, .ref pt, .ref ru, .ref de, .int 0, .int 0])), (fo, .inr (9, [.ref fa, .ref fb, .ref fd, .int 0]))] := hD
  have w_3 : r_1 = 0 := w_3
  subst w_3
  refine lv_if_eq (tgt := 19) hx hb dX11_extension_8 (by decide) (fun c_4 => ?_) (fun c_4 => ?_)
  · refine lv_iconst (v := (-1)) hx hb dX11_extension_19 (by decide) ?_
    have hP9 := hP.sub (ws' := []) [] rfl
    have hD9 := hD.sub (ws' := []) [] (by decide) rfl
    have hK9 := hK.sub (tys' := []) [] rfl
    exact W.iret (v := (-1)) hx hb hr (fun tZ htZ hW => ⟨⟨(-1), (), rfl, rfl, by rw [htZ]; exact hP9, va_K.moved hW.alike hK9, hD9⟩, hS.F htZ⟩) hS.2.2 dX11_extension_20
  · exact absurd c_4 (by decide)
theorem dX11_reach_0 : decode cX11_reach 0 = .ok (.aload_n 0, 1) := by decide +kernel
theorem dX11_reach_1 : decode cX11_reach 1 = .ok (.getfield 27, 3) := by decide +kernel
theorem dX11_reach_4 : decode cX11_reach 4 = .ok (.iload_n 1, 1) := by decide +kernel
theorem dX11_reach_5 : decode cX11_reach 5 = .ok (.invokevirtual 196, 3) := by decide +kernel
theorem dX11_reach_8 : decode cX11_reach 8 = .ok (.ifCond .eq 14, 3) := by decide +kernel
theorem dX11_reach_11 : decode cX11_reach 11 = .ok (.aload_n 0, 1) := by decide +kernel
theorem dX11_reach_12 : decode cX11_reach 12 = .ok (.getfield 12, 3) := by decide +kernel
theorem dX11_reach_15 : decode cX11_reach 15 = .ok (.iload_n 2, 1) := by decide +kernel
theorem dX11_reach_16 : decode cX11_reach 16 = .ok (.invokevirtual 125, 3) := by decide +kernel
theorem dX11_reach_19 : decode cX11_reach 19 = .ok (.ifCond .ne 5, 3) := by decide +kernel
theorem dX11_reach_22 : decode cX11_reach 22 = .ok (.iconst (-1), 1) := by decide +kernel
theorem dX11_reach_23 : decode cX11_reach 23 = .ok (.ireturn, 1) := by decide +kernel
theorem dX11_reach_24 : decode cX11_reach 24 = .ok (.aload_n 0, 1) := by decide +kernel
theorem dX11_reach_25 : decode cX11_reach 25 = .ok (.iload_n 1, 1) := by decide +kernel
theorem dX11_reach_26 : decode cX11_reach 26 = .ok (.invokevirtual 200, 3) := by decide +kernel
theorem dX11_reach_29 : decode cX11_reach 29 = .ok (.istore_n 3, 1) := by decide +kernel
theorem dX11_reach_30 : decode cX11_reach 30 = .ok (.aload_n 0, 1) := by decide +kernel
theorem dX11_reach_31 : decode cX11_reach 31 = .ok (.getfield 44, 3) := by decide +kernel
theorem dX11_reach_34 : decode cX11_reach 34 = .ok (.iload_n 3, 1) := by decide +kernel
theorem dX11_reach_35 : decode cX11_reach 35 = .ok (.invokevirtual 223, 3) := by decide +kernel
theorem dX11_reach_38 : decode cX11_reach 38 = .ok (.bipush 91, 2) := by decide +kernel
theorem dX11_reach_40 : decode cX11_reach 40 = .ok (.if_icmp .eq 6, 3) := by decide +kernel
theorem dX11_reach_43 : decode cX11_reach 43 = .ok (.bipush (-3), 2) := by decide +kernel
theorem dX11_reach_45 : decode cX11_reach 45 = .ok (.ireturn, 1) := by decide +kernel
theorem dX11_reach_46 : decode cX11_reach 46 = .ok (.aload_n 0, 1) := by decide +kernel
theorem dX11_reach_47 : decode cX11_reach 47 = .ok (.getfield 73, 3) := by decide +kernel
theorem dX11_reach_50 : decode cX11_reach 50 = .ok (.aload_n 0, 1) := by decide +kernel
theorem dX11_reach_51 : decode cX11_reach 51 = .ok (.getfield 12, 3) := by decide +kernel
theorem dX11_reach_54 : decode cX11_reach 54 = .ok (.invokevirtual 226, 3) := by decide +kernel
theorem dX11_reach_57 : decode cX11_reach 57 = .ok (.aload_n 0, 1) := by decide +kernel
theorem dX11_reach_58 : decode cX11_reach 58 = .ok (.getfield 73, 3) := by decide +kernel
theorem dX11_reach_61 : decode cX11_reach 61 = .ok (.aload_n 0, 1) := by decide +kernel
theorem dX11_reach_62 : decode cX11_reach 62 = .ok (.getfield 44, 3) := by decide +kernel
theorem dX11_reach_65 : decode cX11_reach 65 = .ok (.iload_n 3, 1) := by decide +kernel
theorem dX11_reach_66 : decode cX11_reach 66 = .ok (.invokevirtual 229, 3) := by decide +kernel
theorem dX11_reach_69 : decode cX11_reach 69 = .ok (.iload_n 2, 1) := by decide +kernel
theorem dX11_reach_70 : decode cX11_reach 70 = .ok (.invokevirtual 232, 3) := by decide +kernel
theorem dX11_reach_73 : decode cX11_reach 73 = .ok (.ireturn, 1) := by decide +kernel
def wo_X11_reach : List Cond := [.fieldLink RX11 27 "DynamicLogicProver" "formulas" "LDynamicLogicProver$Shelf;", .methodLink RX11 196 yX9_has, .instanceMethod yX9_has, .selects RX9 yX9_has yX9_has, .initialized RX9]
def wd_X11_reach : List Cond := .code yX11_reach cX11_reach 4 (some .int) :: (wo_X11_reach ++ (wd_X9_has0 ++ (wsX110 ++ ([] : List Cond))))
theorem mo_X11_reach {w : Cond} (i : Nat) (h : wo_X11_reach[i]? = some w) : w ∈ wd_X11_reach := List.mem_cons_of_mem _ (List.mem_append_left _ (List.mem_of_getElem? h))
theorem mb_X11_reach_0 : ∀ w ∈ wd_X9_has0, w ∈ wd_X11_reach := fun w h => List.mem_cons_of_mem _ (List.mem_append_right _ (List.mem_append_left _ h))
theorem mb_X11_reach_1 : ∀ w ∈ wsX110, w ∈ wd_X11_reach := fun w h => List.mem_cons_of_mem _ (List.mem_append_right _ (List.mem_append_right _ (List.mem_append_left _ h)))
theorem hd_X11_reach : yX11_reach.cls ≠ "java/lang/invoke/MethodHandle" ∧ yX11_reach.cls ≠ "java/lang/invoke/VarHandle" ∧ (parseMethodDescriptor yX11_reach.desc).map (fun d => d.parameters.length) = some 2 := by decide +kernel
set_option maxRecDepth 20000 in
theorem gw_X11_reach : wd_X11_reach.all goodWord = true := by decide +kernel
abbrev qc_X11_reach (D : va_G) (x : Nat) (mo : Nat) (sm : Nat) (sc : Nat) (fo : Nat) (sf : Nat) (bu : Nat) (po : Nat) (te : Nat) (pa : Nat) (rw : Nat) (tr : Nat) (cl : Nat) (pt : Nat) (ru : Nat) (de : Nat) (fa : Nat) (fb : Nat) (fd : Nat) (g1 : Int32) (g2 : Int32) (A : Nat → Prop) : Array Value → State → Outcome → State → Prop := va_Qi (fun (r : Int32) (uZ : Unit) => r = (-1)) (fun uZ tZ => kc_pos D A [] [] tZ) A
set_option maxHeartbeats 4000000 in
set_option maxRecDepth 100000 in
theorem ct_X11_reach (l : Launch) (D : va_G) (x : Nat) (mo : Nat) (sm : Nat) (sc : Nat) (fo : Nat) (sf : Nat) (bu : Nat) (po : Nat) (te : Nat) (pa : Nat) (rw : Nat) (tr : Nat) (cl : Nat) (pt : Nat) (ru : Nat) (de : Nat) (fa : Nat) (fb : Nat) (fd : Nat) (g1 : Int32) (g2 : Int32) (sz : Nat)  : Met l yX11_reach wd_X11_reach ({ frames := 1, cells := 0, slots := 0, locals := 21 }) (va_Pc [.ref x, .int g1, .int g2] (kc_pre D [] [(x, .inr (11, [.ref mo, .ref sm, .ref sc, .ref fo, .ref sf, .ref bu, .ref po, .ref te, .ref pa, .ref rw, .ref tr, .ref cl, .ref pt, .ref ru, .ref de, .int 0, .int 0])), (fo, .inr (9, [.ref fa, .ref fb, .ref fd, .int 0]))] sz)) (qc_X11_reach D x mo sm sc fo sf bu po te pa rw tr cl pt ru de fa fb fd g1 g2 (va_A [(x, .inr (11, [.ref mo, .ref sm, .ref sc, .ref fo, .ref sf, .ref bu, .ref po, .ref te, .ref pa, .ref rw, .ref tr, .ref cl, .ref pt, .ref ru, .ref de, .int 0, .int 0])), (fo, .inr (9, [.ref fa, .ref fb, .ref fd, .int 0]))] sz)) 0 0 (va_A [(x, .inr (11, [.ref mo, .ref sm, .ref sc, .ref fo, .ref sf, .ref bu, .ref po, .ref te, .ref pa, .ref rw, .ref tr, .ref cl, .ref pt, .ref ru, .ref de, .int 0, .int 0])), (fo, .inr (9, [.ref fa, .ref fb, .ref fd, .int 0]))] sz) := by
  refine Met.ofW (cc := cX11_reach) (maxL := 4) (ret := (some .int)) (by decide) rfl ?_
  intro p e s m args below meth c s₁ B hml hv
  obtain ⟨rfl, hsz, hP, hK, hN, hD0⟩ := hv
  have hx := B.exec
  have hb := B.bytes
  have hr := B.returns
  have hts := atoms_spec (ws := wd_X11_reach) B.pre
  have hown : s.vm.findClass RX11 = some m.cls := findClass_of_methodNamed B.named
  have hlocks := B.notSynchronized
  subst hsz
  have hD := hD0.self (sz := s.heap.size)
  generalize hAe : va_A [(x, .inr (11, [.ref mo, .ref sm, .ref sc, .ref fo, .ref sf, .ref bu, .ref po, .ref te, .ref pa, .ref rw, .ref tr, .ref cl, .ref pt, .ref ru, .ref de, .int 0, .int 0])), (fo, .inr (9, [.ref fa, .ref fb, .ref fd, .int 0]))] s.heap.size = A at hD ⊢
  have hA : ∀ q : Nat, s.heap.size ≤ q → A q := fun q h => by rw [← hAe]; exact Or.inr h
  have hS : va_S A s.heap s.heap [] := va_S.rf
  have hiX11 : ∀ w ∈ wsX110, w ∈ wd_X11_reach := mb_X11_reach_1
  have hl := lv_entry ([.ref x, .int g1, .int g2]) (n := 4) (Nat.le_of_ble_eq_true rfl)
  rw [lg_entry_eq]
  generalize (lg_sl ([.ref x, .int g1, .int g2]) ++ List.replicate (4 - (lg_sl ([.ref x, .int g1, .int g2])).length) Slot.unset).toArray = ls at hl ⊢
  have hl : lv_has ls 4 [(0, .ref x), (1, .int g1), (2, .int g2)] := hl
  refine lv_aload_n hx hb dX11_reach_0 rfl (lv_at hl 0 rfl) ?_
  refine va_get (D := D) (ci := 11) (v := .ref fo) (C := RX11) (T := TX11) (N := 17) hx hb hts hiX11 hown hK hP 0 rfl rfl 3 (by decide) (hts (.fieldLink RX11 27 "DynamicLogicProver" "formulas" "LDynamicLogicProver$Shelf;") (mo_X11_reach 0 rfl)) (fun _ h9 => h9) rfl dX11_reach_1 ?_
  refine lv_iload_n hx hb dX11_reach_4 rfl (lv_at hl 1 rfl) ?_
  refine kc_Vi (As := [.int g1]) (rest := []) (wr := [(x, .inr (11, [.ref mo, .ref sm, .ref sc, .ref fo, .ref sf, .ref bu, .ref po, .ref te, .ref pa, .ref rw, .ref tr, .ref cl, .ref pt, .ref ru, .ref de, .int 0, .int 0]))]) ⟨hx, hb, hml, hown, hts⟩ (ct_X9_has0 l D fo fa fb fd g1 _ ) (cwV 1 hts (kg_V (mo_X11_reach 1 rfl) (mo_X11_reach 2 rfl) (mo_X11_reach 3 rfl) (mo_X11_reach 4 rfl) (goodIn_sub mb_X11_reach_0 gw_X9_has0)) rfl rfl rfl ⟨rfl, hd_X9_has⟩ ⟨Nat.le_of_ble_eq_true rfl, Nat.le_of_ble_eq_true rfl⟩) (RX9, TX9, 4) 9 1 rfl rfl rfl hK hN hP hD hS hA [1] [0] [] rfl rfl (by decide) (by decide) (by decide) rfl rfl hl.1 rfl (Nat.le_of_ble_eq_true rfl) dX11_reach_5 ⟨Nat.le_of_ble_eq_true rfl, Nat.le_of_ble_eq_true rfl⟩ (fun r_1 u_2 H locs w_3 hP hD hK1 hS => ?_)
  have hP : va_P D vwCl [(x, .inr (11, [.ref mo, .ref sm, .ref sc, .ref fo, .ref sf, .ref bu, .ref po, .ref te, .ref pa, .ref rw, .ref tr, .ref cl, .ref pt, .ref ru, .ref de, .int 0, .int 0])), (fo, .inr (9, [.ref fa, .ref fb, .ref fd, .int 0]))] H := hP
  have hD : va_D A [(x, .inr (11, [.ref mo, .ref sm, .ref sc, .ref fo, .ref sf, .ref bu, .ref po, .ref te, .ref pa, .ref rw, .ref tr, .ref cl, .ref pt, .ref ru, .ref de, .int 0, .int 0])), (fo, .inr (9, [.ref fa, .ref fb, .ref fd, .int 0]))] := hD
  have w_3 : r_1 = 0 := w_3
  subst w_3
  refine lv_if_eq (tgt := 22) hx hb dX11_reach_8 (by decide) (fun c_4 => ?_) (fun c_4 => ?_)
  · refine lv_iconst (v := (-1)) hx hb dX11_reach_22 (by decide) ?_
    have hP9 := hP.sub (ws' := []) [] rfl
    have hD9 := hD.sub (ws' := []) [] (by decide) rfl
    have hK9 := hK.sub (tys' := []) [] rfl
    exact W.iret (v := (-1)) hx hb hr (fun tZ htZ hW => ⟨⟨(-1), (), rfl, rfl, by rw [htZ]; exact hP9, va_K.moved hW.alike hK9, hD9⟩, hS.F htZ⟩) hS.2.2 dX11_reach_23
  · exact absurd c_4 (by decide)
theorem dX11_runSteps_0 : decode cX11_runSteps 0 = .ok (.aload_n 0, 1) := by decide +kernel
theorem dX11_runSteps_1 : decode cX11_runSteps 1 = .ok (.getfield 27, 3) := by decide +kernel
theorem dX11_runSteps_4 : decode cX11_runSteps 4 = .ok (.iload_n 1, 1) := by decide +kernel
theorem dX11_runSteps_5 : decode cX11_runSteps 5 = .ok (.invokevirtual 196, 3) := by decide +kernel
theorem dX11_runSteps_8 : decode cX11_runSteps 8 = .ok (.ifCond .eq 25, 3) := by decide +kernel
theorem dX11_runSteps_11 : decode cX11_runSteps 11 = .ok (.aload_n 0, 1) := by decide +kernel
theorem dX11_runSteps_12 : decode cX11_runSteps 12 = .ok (.getfield 12, 3) := by decide +kernel
theorem dX11_runSteps_15 : decode cX11_runSteps 15 = .ok (.iload_n 2, 1) := by decide +kernel
theorem dX11_runSteps_16 : decode cX11_runSteps 16 = .ok (.invokevirtual 125, 3) := by decide +kernel
theorem dX11_runSteps_19 : decode cX11_runSteps 19 = .ok (.ifCond .eq 14, 3) := by decide +kernel
theorem dX11_runSteps_22 : decode cX11_runSteps 22 = .ok (.aload_n 0, 1) := by decide +kernel
theorem dX11_runSteps_23 : decode cX11_runSteps 23 = .ok (.getfield 12, 3) := by decide +kernel
theorem dX11_runSteps_26 : decode cX11_runSteps 26 = .ok (.iload_n 3, 1) := by decide +kernel
theorem dX11_runSteps_27 : decode cX11_runSteps 27 = .ok (.invokevirtual 125, 3) := by decide +kernel
theorem dX11_runSteps_30 : decode cX11_runSteps 30 = .ok (.ifCond .ne 5, 3) := by decide +kernel
theorem dX11_runSteps_33 : decode cX11_runSteps 33 = .ok (.iconst (-1), 1) := by decide +kernel
theorem dX11_runSteps_34 : decode cX11_runSteps 34 = .ok (.ireturn, 1) := by decide +kernel
theorem dX11_runSteps_35 : decode cX11_runSteps 35 = .ok (.aload_n 0, 1) := by decide +kernel
theorem dX11_runSteps_36 : decode cX11_runSteps 36 = .ok (.iload_n 1, 1) := by decide +kernel
theorem dX11_runSteps_37 : decode cX11_runSteps 37 = .ok (.invokevirtual 235, 3) := by decide +kernel
theorem dX11_runSteps_40 : decode cX11_runSteps 40 = .ok (.ifCond .ne 6, 3) := by decide +kernel
theorem dX11_runSteps_43 : decode cX11_runSteps 43 = .ok (.bipush (-3), 2) := by decide +kernel
theorem dX11_runSteps_45 : decode cX11_runSteps 45 = .ok (.ireturn, 1) := by decide +kernel
theorem dX11_runSteps_46 : decode cX11_runSteps 46 = .ok (.aload_n 0, 1) := by decide +kernel
theorem dX11_runSteps_47 : decode cX11_runSteps 47 = .ok (.getfield 96, 3) := by decide +kernel
theorem dX11_runSteps_50 : decode cX11_runSteps 50 = .ok (.iload_n 3, 1) := by decide +kernel
theorem dX11_runSteps_51 : decode cX11_runSteps 51 = .ok (.invokevirtual 238, 3) := by decide +kernel
theorem dX11_runSteps_54 : decode cX11_runSteps 54 = .ok (.aload_n 0, 1) := by decide +kernel
theorem dX11_runSteps_55 : decode cX11_runSteps 55 = .ok (.getfield 96, 3) := by decide +kernel
theorem dX11_runSteps_58 : decode cX11_runSteps 58 = .ok (.iload_n 2, 1) := by decide +kernel
theorem dX11_runSteps_59 : decode cX11_runSteps 59 = .ok (.invokevirtual 241, 3) := by decide +kernel
theorem dX11_runSteps_62 : decode cX11_runSteps 62 = .ok (.istore 4, 2) := by decide +kernel
theorem dX11_runSteps_64 : decode cX11_runSteps 64 = .ok (.iload 4, 2) := by decide +kernel
theorem dX11_runSteps_66 : decode cX11_runSteps 66 = .ok (.iconst (-1), 1) := by decide +kernel
theorem dX11_runSteps_67 : decode cX11_runSteps 67 = .ok (.if_icmp .ne 8, 3) := by decide +kernel
theorem dX11_runSteps_70 : decode cX11_runSteps 70 = .ok (.bipush (-5), 2) := by decide +kernel
theorem dX11_runSteps_72 : decode cX11_runSteps 72 = .ok (.goto 5, 3) := by decide +kernel
theorem dX11_runSteps_75 : decode cX11_runSteps 75 = .ok (.iload 4, 2) := by decide +kernel
theorem dX11_runSteps_77 : decode cX11_runSteps 77 = .ok (.ireturn, 1) := by decide +kernel
def wo_X11_runSteps : List Cond := [.fieldLink RX11 27 "DynamicLogicProver" "formulas" "LDynamicLogicProver$Shelf;", .methodLink RX11 196 yX9_has, .instanceMethod yX9_has, .selects RX9 yX9_has yX9_has, .initialized RX9]
def wd_X11_runSteps : List Cond := .code yX11_runSteps cX11_runSteps 5 (some .int) :: (wo_X11_runSteps ++ (wd_X9_has0 ++ (wsX110 ++ ([] : List Cond))))
theorem mo_X11_runSteps {w : Cond} (i : Nat) (h : wo_X11_runSteps[i]? = some w) : w ∈ wd_X11_runSteps := List.mem_cons_of_mem _ (List.mem_append_left _ (List.mem_of_getElem? h))
theorem mb_X11_runSteps_0 : ∀ w ∈ wd_X9_has0, w ∈ wd_X11_runSteps := fun w h => List.mem_cons_of_mem _ (List.mem_append_right _ (List.mem_append_left _ h))
theorem mb_X11_runSteps_1 : ∀ w ∈ wsX110, w ∈ wd_X11_runSteps := fun w h => List.mem_cons_of_mem _ (List.mem_append_right _ (List.mem_append_right _ (List.mem_append_left _ h)))
theorem hd_X11_runSteps : yX11_runSteps.cls ≠ "java/lang/invoke/MethodHandle" ∧ yX11_runSteps.cls ≠ "java/lang/invoke/VarHandle" ∧ (parseMethodDescriptor yX11_runSteps.desc).map (fun d => d.parameters.length) = some 3 := by decide +kernel
set_option maxRecDepth 20000 in
theorem gw_X11_runSteps : wd_X11_runSteps.all goodWord = true := by decide +kernel
abbrev qc_X11_runSteps (D : va_G) (x : Nat) (mo : Nat) (sm : Nat) (sc : Nat) (fo : Nat) (sf : Nat) (bu : Nat) (po : Nat) (te : Nat) (pa : Nat) (rw : Nat) (tr : Nat) (cl : Nat) (pt : Nat) (ru : Nat) (de : Nat) (fa : Nat) (fb : Nat) (fd : Nat) (g1 : Int32) (g2 : Int32) (g3 : Int32) (A : Nat → Prop) : Array Value → State → Outcome → State → Prop := va_Qi (fun (r : Int32) (uZ : Unit) => r = (-1)) (fun uZ tZ => kc_pos D A [] [] tZ) A
set_option maxHeartbeats 4000000 in
set_option maxRecDepth 100000 in
theorem ct_X11_runSteps (l : Launch) (D : va_G) (x : Nat) (mo : Nat) (sm : Nat) (sc : Nat) (fo : Nat) (sf : Nat) (bu : Nat) (po : Nat) (te : Nat) (pa : Nat) (rw : Nat) (tr : Nat) (cl : Nat) (pt : Nat) (ru : Nat) (de : Nat) (fa : Nat) (fb : Nat) (fd : Nat) (g1 : Int32) (g2 : Int32) (g3 : Int32) (sz : Nat)  : Met l yX11_runSteps wd_X11_runSteps ({ frames := 1, cells := 0, slots := 0, locals := 21 }) (va_Pc [.ref x, .int g1, .int g2, .int g3] (kc_pre D [] [(x, .inr (11, [.ref mo, .ref sm, .ref sc, .ref fo, .ref sf, .ref bu, .ref po, .ref te, .ref pa, .ref rw, .ref tr, .ref cl, .ref pt, .ref ru, .ref de, .int 0, .int 0])), (fo, .inr (9, [.ref fa, .ref fb, .ref fd, .int 0]))] sz)) (qc_X11_runSteps D x mo sm sc fo sf bu po te pa rw tr cl pt ru de fa fb fd g1 g2 g3 (va_A [(x, .inr (11, [.ref mo, .ref sm, .ref sc, .ref fo, .ref sf, .ref bu, .ref po, .ref te, .ref pa, .ref rw, .ref tr, .ref cl, .ref pt, .ref ru, .ref de, .int 0, .int 0])), (fo, .inr (9, [.ref fa, .ref fb, .ref fd, .int 0]))] sz)) 0 0 (va_A [(x, .inr (11, [.ref mo, .ref sm, .ref sc, .ref fo, .ref sf, .ref bu, .ref po, .ref te, .ref pa, .ref rw, .ref tr, .ref cl, .ref pt, .ref ru, .ref de, .int 0, .int 0])), (fo, .inr (9, [.ref fa, .ref fb, .ref fd, .int 0]))] sz) := by
  refine Met.ofW (cc := cX11_runSteps) (maxL := 5) (ret := (some .int)) (by decide) rfl ?_
  intro p e s m args below meth c s₁ B hml hv
  obtain ⟨rfl, hsz, hP, hK, hN, hD0⟩ := hv
  have hx := B.exec
  have hb := B.bytes
  have hr := B.returns
  have hts := atoms_spec (ws := wd_X11_runSteps) B.pre
  have hown : s.vm.findClass RX11 = some m.cls := findClass_of_methodNamed B.named
  have hlocks := B.notSynchronized
  subst hsz
  have hD := hD0.self (sz := s.heap.size)
  generalize hAe : va_A [(x, .inr (11, [.ref mo, .ref sm, .ref sc, .ref fo, .ref sf, .ref bu, .ref po, .ref te, .ref pa, .ref rw, .ref tr, .ref cl, .ref pt, .ref ru, .ref de, .int 0, .int 0])), (fo, .inr (9, [.ref fa, .ref fb, .ref fd, .int 0]))] s.heap.size = A at hD ⊢
  have hA : ∀ q : Nat, s.heap.size ≤ q → A q := fun q h => by rw [← hAe]; exact Or.inr h
  have hS : va_S A s.heap s.heap [] := va_S.rf
  have hiX11 : ∀ w ∈ wsX110, w ∈ wd_X11_runSteps := mb_X11_runSteps_1
  have hl := lv_entry ([.ref x, .int g1, .int g2, .int g3]) (n := 5) (Nat.le_of_ble_eq_true rfl)
  rw [lg_entry_eq]
  generalize (lg_sl ([.ref x, .int g1, .int g2, .int g3]) ++ List.replicate (5 - (lg_sl ([.ref x, .int g1, .int g2, .int g3])).length) Slot.unset).toArray = ls at hl ⊢
  have hl : lv_has ls 5 [(0, .ref x), (1, .int g1), (2, .int g2), (3, .int g3)] := hl
  refine lv_aload_n hx hb dX11_runSteps_0 rfl (lv_at hl 0 rfl) ?_
  refine va_get (D := D) (ci := 11) (v := .ref fo) (C := RX11) (T := TX11) (N := 17) hx hb hts hiX11 hown hK hP 0 rfl rfl 3 (by decide) (hts (.fieldLink RX11 27 "DynamicLogicProver" "formulas" "LDynamicLogicProver$Shelf;") (mo_X11_runSteps 0 rfl)) (fun _ h9 => h9) rfl dX11_runSteps_1 ?_
  refine lv_iload_n hx hb dX11_runSteps_4 rfl (lv_at hl 1 rfl) ?_
  refine kc_Vi (As := [.int g1]) (rest := []) (wr := [(x, .inr (11, [.ref mo, .ref sm, .ref sc, .ref fo, .ref sf, .ref bu, .ref po, .ref te, .ref pa, .ref rw, .ref tr, .ref cl, .ref pt, .ref ru, .ref de, .int 0, .int 0]))]) ⟨hx, hb, hml, hown, hts⟩ (ct_X9_has0 l D fo fa fb fd g1 _ ) (cwV 1 hts (kg_V (mo_X11_runSteps 1 rfl) (mo_X11_runSteps 2 rfl) (mo_X11_runSteps 3 rfl) (mo_X11_runSteps 4 rfl) (goodIn_sub mb_X11_runSteps_0 gw_X9_has0)) rfl rfl rfl ⟨rfl, hd_X9_has⟩ ⟨Nat.le_of_ble_eq_true rfl, Nat.le_of_ble_eq_true rfl⟩) (RX9, TX9, 4) 9 1 rfl rfl rfl hK hN hP hD hS hA [1] [0] [] rfl rfl (by decide) (by decide) (by decide) rfl rfl hl.1 rfl (Nat.le_of_ble_eq_true rfl) dX11_runSteps_5 ⟨Nat.le_of_ble_eq_true rfl, Nat.le_of_ble_eq_true rfl⟩ (fun r_1 u_2 H locs w_3 hP hD hK1 hS => ?_)
  have hP : va_P D vwCl [(x, .inr (11, [.ref mo, .ref sm, .ref sc, .ref fo, .ref sf, .ref bu, .ref po, .ref te, .ref pa, .ref rw, .ref tr, .ref cl, .ref pt, .ref ru, .ref de, .int 0, .int 0])), (fo, .inr (9, [.ref fa, .ref fb, .ref fd, .int 0]))] H := hP
  have hD : va_D A [(x, .inr (11, [.ref mo, .ref sm, .ref sc, .ref fo, .ref sf, .ref bu, .ref po, .ref te, .ref pa, .ref rw, .ref tr, .ref cl, .ref pt, .ref ru, .ref de, .int 0, .int 0])), (fo, .inr (9, [.ref fa, .ref fb, .ref fd, .int 0]))] := hD
  have w_3 : r_1 = 0 := w_3
  subst w_3
  refine lv_if_eq (tgt := 33) hx hb dX11_runSteps_8 (by decide) (fun c_4 => ?_) (fun c_4 => ?_)
  · refine lv_iconst (v := (-1)) hx hb dX11_runSteps_33 (by decide) ?_
    have hP9 := hP.sub (ws' := []) [] rfl
    have hD9 := hD.sub (ws' := []) [] (by decide) rfl
    have hK9 := hK.sub (tys' := []) [] rfl
    exact W.iret (v := (-1)) hx hb hr (fun tZ htZ hW => ⟨⟨(-1), (), rfl, rfl, by rw [htZ]; exact hP9, va_K.moved hW.alike hK9, hD9⟩, hS.F htZ⟩) hS.2.2 dX11_runSteps_34
  · exact absurd c_4 (by decide)
theorem dX11_runStep_0 : decode cX11_runStep 0 = .ok (.aload_n 0, 1) := by decide +kernel
theorem dX11_runStep_1 : decode cX11_runStep 1 = .ok (.getfield 27, 3) := by decide +kernel
theorem dX11_runStep_4 : decode cX11_runStep 4 = .ok (.iload_n 1, 1) := by decide +kernel
theorem dX11_runStep_5 : decode cX11_runStep 5 = .ok (.invokevirtual 196, 3) := by decide +kernel
theorem dX11_runStep_8 : decode cX11_runStep 8 = .ok (.ifCond .eq 36, 3) := by decide +kernel
theorem dX11_runStep_11 : decode cX11_runStep 11 = .ok (.aload_n 0, 1) := by decide +kernel
theorem dX11_runStep_12 : decode cX11_runStep 12 = .ok (.getfield 12, 3) := by decide +kernel
theorem dX11_runStep_15 : decode cX11_runStep 15 = .ok (.iload_n 2, 1) := by decide +kernel
theorem dX11_runStep_16 : decode cX11_runStep 16 = .ok (.invokevirtual 125, 3) := by decide +kernel
theorem dX11_runStep_19 : decode cX11_runStep 19 = .ok (.ifCond .eq 25, 3) := by decide +kernel
theorem dX11_runStep_22 : decode cX11_runStep 22 = .ok (.aload_n 0, 1) := by decide +kernel
theorem dX11_runStep_23 : decode cX11_runStep 23 = .ok (.getfield 12, 3) := by decide +kernel
theorem dX11_runStep_26 : decode cX11_runStep 26 = .ok (.iload_n 3, 1) := by decide +kernel
theorem dX11_runStep_27 : decode cX11_runStep 27 = .ok (.invokevirtual 125, 3) := by decide +kernel
theorem dX11_runStep_30 : decode cX11_runStep 30 = .ok (.ifCond .eq 14, 3) := by decide +kernel
theorem dX11_runStep_33 : decode cX11_runStep 33 = .ok (.iload 5, 2) := by decide +kernel
theorem dX11_runStep_35 : decode cX11_runStep 35 = .ok (.ifCond .lt 9, 3) := by decide +kernel
theorem dX11_runStep_38 : decode cX11_runStep 38 = .ok (.iload 5, 2) := by decide +kernel
theorem dX11_runStep_40 : decode cX11_runStep 40 = .ok (.iconst 1, 1) := by decide +kernel
theorem dX11_runStep_41 : decode cX11_runStep 41 = .ok (.if_icmp .le 5, 3) := by decide +kernel
theorem dX11_runStep_44 : decode cX11_runStep 44 = .ok (.iconst (-1), 1) := by decide +kernel
theorem dX11_runStep_45 : decode cX11_runStep 45 = .ok (.ireturn, 1) := by decide +kernel
theorem dX11_runStep_46 : decode cX11_runStep 46 = .ok (.aload_n 0, 1) := by decide +kernel
theorem dX11_runStep_47 : decode cX11_runStep 47 = .ok (.iload_n 1, 1) := by decide +kernel
theorem dX11_runStep_48 : decode cX11_runStep 48 = .ok (.invokevirtual 235, 3) := by decide +kernel
theorem dX11_runStep_51 : decode cX11_runStep 51 = .ok (.ifCond .ne 6, 3) := by decide +kernel
theorem dX11_runStep_54 : decode cX11_runStep 54 = .ok (.bipush (-3), 2) := by decide +kernel
theorem dX11_runStep_56 : decode cX11_runStep 56 = .ok (.ireturn, 1) := by decide +kernel
theorem dX11_runStep_57 : decode cX11_runStep 57 = .ok (.aload_n 0, 1) := by decide +kernel
theorem dX11_runStep_58 : decode cX11_runStep 58 = .ok (.getfield 96, 3) := by decide +kernel
theorem dX11_runStep_61 : decode cX11_runStep 61 = .ok (.iload_n 3, 1) := by decide +kernel
theorem dX11_runStep_62 : decode cX11_runStep 62 = .ok (.invokevirtual 238, 3) := by decide +kernel
theorem dX11_runStep_65 : decode cX11_runStep 65 = .ok (.aload_n 0, 1) := by decide +kernel
theorem dX11_runStep_66 : decode cX11_runStep 66 = .ok (.getfield 96, 3) := by decide +kernel
theorem dX11_runStep_69 : decode cX11_runStep 69 = .ok (.iload_n 2, 1) := by decide +kernel
theorem dX11_runStep_70 : decode cX11_runStep 70 = .ok (.invokevirtual 241, 3) := by decide +kernel
theorem dX11_runStep_73 : decode cX11_runStep 73 = .ok (.istore 6, 2) := by decide +kernel
theorem dX11_runStep_75 : decode cX11_runStep 75 = .ok (.iload 6, 2) := by decide +kernel
theorem dX11_runStep_77 : decode cX11_runStep 77 = .ok (.iconst (-1), 1) := by decide +kernel
theorem dX11_runStep_78 : decode cX11_runStep 78 = .ok (.if_icmp .eq 15, 3) := by decide +kernel
theorem dX11_runStep_81 : decode cX11_runStep 81 = .ok (.iload 4, 2) := by decide +kernel
theorem dX11_runStep_83 : decode cX11_runStep 83 = .ok (.ifCond .lt 10, 3) := by decide +kernel
theorem dX11_runStep_86 : decode cX11_runStep 86 = .ok (.iload 4, 2) := by decide +kernel
theorem dX11_runStep_88 : decode cX11_runStep 88 = .ok (.iload 6, 2) := by decide +kernel
theorem dX11_runStep_90 : decode cX11_runStep 90 = .ok (.if_icmp .lt 6, 3) := by decide +kernel
theorem dX11_runStep_93 : decode cX11_runStep 93 = .ok (.bipush (-5), 2) := by decide +kernel
theorem dX11_runStep_95 : decode cX11_runStep 95 = .ok (.ireturn, 1) := by decide +kernel
theorem dX11_runStep_96 : decode cX11_runStep 96 = .ok (.aload_n 0, 1) := by decide +kernel
theorem dX11_runStep_97 : decode cX11_runStep 97 = .ok (.getfield 96, 3) := by decide +kernel
theorem dX11_runStep_100 : decode cX11_runStep 100 = .ok (.iload_n 2, 1) := by decide +kernel
theorem dX11_runStep_101 : decode cX11_runStep 101 = .ok (.iload 4, 2) := by decide +kernel
theorem dX11_runStep_103 : decode cX11_runStep 103 = .ok (.iload 5, 2) := by decide +kernel
theorem dX11_runStep_105 : decode cX11_runStep 105 = .ok (.invokevirtual 244, 3) := by decide +kernel
theorem dX11_runStep_108 : decode cX11_runStep 108 = .ok (.ireturn, 1) := by decide +kernel
def wo_X11_runStep : List Cond := [.fieldLink RX11 27 "DynamicLogicProver" "formulas" "LDynamicLogicProver$Shelf;", .methodLink RX11 196 yX9_has, .instanceMethod yX9_has, .selects RX9 yX9_has yX9_has, .initialized RX9]
def wd_X11_runStep : List Cond := .code yX11_runStep cX11_runStep 7 (some .int) :: (wo_X11_runStep ++ (wd_X9_has0 ++ (wsX110 ++ ([] : List Cond))))
theorem mo_X11_runStep {w : Cond} (i : Nat) (h : wo_X11_runStep[i]? = some w) : w ∈ wd_X11_runStep := List.mem_cons_of_mem _ (List.mem_append_left _ (List.mem_of_getElem? h))
theorem mb_X11_runStep_0 : ∀ w ∈ wd_X9_has0, w ∈ wd_X11_runStep := fun w h => List.mem_cons_of_mem _ (List.mem_append_right _ (List.mem_append_left _ h))
theorem mb_X11_runStep_1 : ∀ w ∈ wsX110, w ∈ wd_X11_runStep := fun w h => List.mem_cons_of_mem _ (List.mem_append_right _ (List.mem_append_right _ (List.mem_append_left _ h)))
theorem hd_X11_runStep : yX11_runStep.cls ≠ "java/lang/invoke/MethodHandle" ∧ yX11_runStep.cls ≠ "java/lang/invoke/VarHandle" ∧ (parseMethodDescriptor yX11_runStep.desc).map (fun d => d.parameters.length) = some 5 := by decide +kernel
set_option maxRecDepth 20000 in
theorem gw_X11_runStep : wd_X11_runStep.all goodWord = true := by decide +kernel
abbrev qc_X11_runStep (D : va_G) (x : Nat) (mo : Nat) (sm : Nat) (sc : Nat) (fo : Nat) (sf : Nat) (bu : Nat) (po : Nat) (te : Nat) (pa : Nat) (rw : Nat) (tr : Nat) (cl : Nat) (pt : Nat) (ru : Nat) (de : Nat) (fa : Nat) (fb : Nat) (fd : Nat) (g1 : Int32) (g2 : Int32) (g3 : Int32) (g4 : Int32) (g5 : Int32) (A : Nat → Prop) : Array Value → State → Outcome → State → Prop := va_Qi (fun (r : Int32) (uZ : Unit) => r = (-1)) (fun uZ tZ => kc_pos D A [] [] tZ) A
set_option maxHeartbeats 4000000 in
set_option maxRecDepth 100000 in
theorem ct_X11_runStep (l : Launch) (D : va_G) (x : Nat) (mo : Nat) (sm : Nat) (sc : Nat) (fo : Nat) (sf : Nat) (bu : Nat) (po : Nat) (te : Nat) (pa : Nat) (rw : Nat) (tr : Nat) (cl : Nat) (pt : Nat) (ru : Nat) (de : Nat) (fa : Nat) (fb : Nat) (fd : Nat) (g1 : Int32) (g2 : Int32) (g3 : Int32) (g4 : Int32) (g5 : Int32) (sz : Nat)  : Met l yX11_runStep wd_X11_runStep ({ frames := 1, cells := 0, slots := 0, locals := 21 }) (va_Pc [.ref x, .int g1, .int g2, .int g3, .int g4, .int g5] (kc_pre D [] [(x, .inr (11, [.ref mo, .ref sm, .ref sc, .ref fo, .ref sf, .ref bu, .ref po, .ref te, .ref pa, .ref rw, .ref tr, .ref cl, .ref pt, .ref ru, .ref de, .int 0, .int 0])), (fo, .inr (9, [.ref fa, .ref fb, .ref fd, .int 0]))] sz)) (qc_X11_runStep D x mo sm sc fo sf bu po te pa rw tr cl pt ru de fa fb fd g1 g2 g3 g4 g5 (va_A [(x, .inr (11, [.ref mo, .ref sm, .ref sc, .ref fo, .ref sf, .ref bu, .ref po, .ref te, .ref pa, .ref rw, .ref tr, .ref cl, .ref pt, .ref ru, .ref de, .int 0, .int 0])), (fo, .inr (9, [.ref fa, .ref fb, .ref fd, .int 0]))] sz)) 0 0 (va_A [(x, .inr (11, [.ref mo, .ref sm, .ref sc, .ref fo, .ref sf, .ref bu, .ref po, .ref te, .ref pa, .ref rw, .ref tr, .ref cl, .ref pt, .ref ru, .ref de, .int 0, .int 0])), (fo, .inr (9, [.ref fa, .ref fb, .ref fd, .int 0]))] sz) := by
  refine Met.ofW (cc := cX11_runStep) (maxL := 7) (ret := (some .int)) (by decide) rfl ?_
  intro p e s m args below meth c s₁ B hml hv
  obtain ⟨rfl, hsz, hP, hK, hN, hD0⟩ := hv
  have hx := B.exec
  have hb := B.bytes
  have hr := B.returns
  have hts := atoms_spec (ws := wd_X11_runStep) B.pre
  have hown : s.vm.findClass RX11 = some m.cls := findClass_of_methodNamed B.named
  have hlocks := B.notSynchronized
  subst hsz
  have hD := hD0.self (sz := s.heap.size)
  generalize hAe : va_A [(x, .inr (11, [.ref mo, .ref sm, .ref sc, .ref fo, .ref sf, .ref bu, .ref po, .ref te, .ref pa, .ref rw, .ref tr, .ref cl, .ref pt, .ref ru, .ref de, .int 0, .int 0])), (fo, .inr (9, [.ref fa, .ref fb, .ref fd, .int 0]))] s.heap.size = A at hD ⊢
  have hA : ∀ q : Nat, s.heap.size ≤ q → A q := fun q h => by rw [← hAe]; exact Or.inr h
  have hS : va_S A s.heap s.heap [] := va_S.rf
  have hiX11 : ∀ w ∈ wsX110, w ∈ wd_X11_runStep := mb_X11_runStep_1
  have hl := lv_entry ([.ref x, .int g1, .int g2, .int g3, .int g4, .int g5]) (n := 7) (Nat.le_of_ble_eq_true rfl)
  rw [lg_entry_eq]
  generalize (lg_sl ([.ref x, .int g1, .int g2, .int g3, .int g4, .int g5]) ++ List.replicate (7 - (lg_sl ([.ref x, .int g1, .int g2, .int g3, .int g4, .int g5])).length) Slot.unset).toArray = ls at hl ⊢
  have hl : lv_has ls 7 [(0, .ref x), (1, .int g1), (2, .int g2), (3, .int g3), (4, .int g4), (5, .int g5)] := hl
  refine lv_aload_n hx hb dX11_runStep_0 rfl (lv_at hl 0 rfl) ?_
  refine va_get (D := D) (ci := 11) (v := .ref fo) (C := RX11) (T := TX11) (N := 17) hx hb hts hiX11 hown hK hP 0 rfl rfl 3 (by decide) (hts (.fieldLink RX11 27 "DynamicLogicProver" "formulas" "LDynamicLogicProver$Shelf;") (mo_X11_runStep 0 rfl)) (fun _ h9 => h9) rfl dX11_runStep_1 ?_
  refine lv_iload_n hx hb dX11_runStep_4 rfl (lv_at hl 1 rfl) ?_
  refine kc_Vi (As := [.int g1]) (rest := []) (wr := [(x, .inr (11, [.ref mo, .ref sm, .ref sc, .ref fo, .ref sf, .ref bu, .ref po, .ref te, .ref pa, .ref rw, .ref tr, .ref cl, .ref pt, .ref ru, .ref de, .int 0, .int 0]))]) ⟨hx, hb, hml, hown, hts⟩ (ct_X9_has0 l D fo fa fb fd g1 _ ) (cwV 1 hts (kg_V (mo_X11_runStep 1 rfl) (mo_X11_runStep 2 rfl) (mo_X11_runStep 3 rfl) (mo_X11_runStep 4 rfl) (goodIn_sub mb_X11_runStep_0 gw_X9_has0)) rfl rfl rfl ⟨rfl, hd_X9_has⟩ ⟨Nat.le_of_ble_eq_true rfl, Nat.le_of_ble_eq_true rfl⟩) (RX9, TX9, 4) 9 1 rfl rfl rfl hK hN hP hD hS hA [1] [0] [] rfl rfl (by decide) (by decide) (by decide) rfl rfl hl.1 rfl (Nat.le_of_ble_eq_true rfl) dX11_runStep_5 ⟨Nat.le_of_ble_eq_true rfl, Nat.le_of_ble_eq_true rfl⟩ (fun r_1 u_2 H locs w_3 hP hD hK1 hS => ?_)
  have hP : va_P D vwCl [(x, .inr (11, [.ref mo, .ref sm, .ref sc, .ref fo, .ref sf, .ref bu, .ref po, .ref te, .ref pa, .ref rw, .ref tr, .ref cl, .ref pt, .ref ru, .ref de, .int 0, .int 0])), (fo, .inr (9, [.ref fa, .ref fb, .ref fd, .int 0]))] H := hP
  have hD : va_D A [(x, .inr (11, [.ref mo, .ref sm, .ref sc, .ref fo, .ref sf, .ref bu, .ref po, .ref te, .ref pa, .ref rw, .ref tr, .ref cl, .ref pt, .ref ru, .ref de, .int 0, .int 0])), (fo, .inr (9, [.ref fa, .ref fb, .ref fd, .int 0]))] := hD
  have w_3 : r_1 = 0 := w_3
  subst w_3
  refine lv_if_eq (tgt := 44) hx hb dX11_runStep_8 (by decide) (fun c_4 => ?_) (fun c_4 => ?_)
  · refine lv_iconst (v := (-1)) hx hb dX11_runStep_44 (by decide) ?_
    have hP9 := hP.sub (ws' := []) [] rfl
    have hD9 := hD.sub (ws' := []) [] (by decide) rfl
    have hK9 := hK.sub (tys' := []) [] rfl
    exact W.iret (v := (-1)) hx hb hr (fun tZ htZ hW => ⟨⟨(-1), (), rfl, rfl, by rw [htZ]; exact hP9, va_K.moved hW.alike hK9, hD9⟩, hS.F htZ⟩) hS.2.2 dX11_runStep_45
  · exact absurd c_4 (by decide)
theorem dX11_iterations_0 : decode cX11_iterations 0 = .ok (.aload_n 0, 1) := by decide +kernel
theorem dX11_iterations_1 : decode cX11_iterations 1 = .ok (.getfield 27, 3) := by decide +kernel
theorem dX11_iterations_4 : decode cX11_iterations 4 = .ok (.iload_n 1, 1) := by decide +kernel
theorem dX11_iterations_5 : decode cX11_iterations 5 = .ok (.invokevirtual 196, 3) := by decide +kernel
theorem dX11_iterations_8 : decode cX11_iterations 8 = .ok (.ifCond .eq 25, 3) := by decide +kernel
theorem dX11_iterations_11 : decode cX11_iterations 11 = .ok (.aload_n 0, 1) := by decide +kernel
theorem dX11_iterations_12 : decode cX11_iterations 12 = .ok (.getfield 12, 3) := by decide +kernel
theorem dX11_iterations_15 : decode cX11_iterations 15 = .ok (.iload_n 2, 1) := by decide +kernel
theorem dX11_iterations_16 : decode cX11_iterations 16 = .ok (.invokevirtual 125, 3) := by decide +kernel
theorem dX11_iterations_19 : decode cX11_iterations 19 = .ok (.ifCond .eq 14, 3) := by decide +kernel
theorem dX11_iterations_22 : decode cX11_iterations 22 = .ok (.aload_n 0, 1) := by decide +kernel
theorem dX11_iterations_23 : decode cX11_iterations 23 = .ok (.getfield 12, 3) := by decide +kernel
theorem dX11_iterations_26 : decode cX11_iterations 26 = .ok (.iload_n 3, 1) := by decide +kernel
theorem dX11_iterations_27 : decode cX11_iterations 27 = .ok (.invokevirtual 125, 3) := by decide +kernel
theorem dX11_iterations_30 : decode cX11_iterations 30 = .ok (.ifCond .ne 5, 3) := by decide +kernel
theorem dX11_iterations_33 : decode cX11_iterations 33 = .ok (.iconst (-1), 1) := by decide +kernel
theorem dX11_iterations_34 : decode cX11_iterations 34 = .ok (.ireturn, 1) := by decide +kernel
theorem dX11_iterations_35 : decode cX11_iterations 35 = .ok (.aload_n 0, 1) := by decide +kernel
theorem dX11_iterations_36 : decode cX11_iterations 36 = .ok (.iload_n 1, 1) := by decide +kernel
theorem dX11_iterations_37 : decode cX11_iterations 37 = .ok (.invokevirtual 200, 3) := by decide +kernel
theorem dX11_iterations_40 : decode cX11_iterations 40 = .ok (.istore 4, 2) := by decide +kernel
theorem dX11_iterations_42 : decode cX11_iterations 42 = .ok (.aload_n 0, 1) := by decide +kernel
theorem dX11_iterations_43 : decode cX11_iterations 43 = .ok (.getfield 44, 3) := by decide +kernel
theorem dX11_iterations_46 : decode cX11_iterations 46 = .ok (.iload 4, 2) := by decide +kernel
theorem dX11_iterations_48 : decode cX11_iterations 48 = .ok (.invokevirtual 223, 3) := by decide +kernel
theorem dX11_iterations_51 : decode cX11_iterations 51 = .ok (.bipush 91, 2) := by decide +kernel
theorem dX11_iterations_53 : decode cX11_iterations 53 = .ok (.if_icmp .ne 24, 3) := by decide +kernel
theorem dX11_iterations_56 : decode cX11_iterations 56 = .ok (.aload_n 0, 1) := by decide +kernel
theorem dX11_iterations_57 : decode cX11_iterations 57 = .ok (.getfield 44, 3) := by decide +kernel
theorem dX11_iterations_60 : decode cX11_iterations 60 = .ok (.aload_n 0, 1) := by decide +kernel
theorem dX11_iterations_61 : decode cX11_iterations 61 = .ok (.getfield 44, 3) := by decide +kernel
theorem dX11_iterations_64 : decode cX11_iterations 64 = .ok (.iload 4, 2) := by decide +kernel
theorem dX11_iterations_66 : decode cX11_iterations 66 = .ok (.invokevirtual 229, 3) := by decide +kernel
theorem dX11_iterations_69 : decode cX11_iterations 69 = .ok (.invokevirtual 223, 3) := by decide +kernel
theorem dX11_iterations_72 : decode cX11_iterations 72 = .ok (.bipush 42, 2) := by decide +kernel
theorem dX11_iterations_74 : decode cX11_iterations 74 = .ok (.if_icmp .eq 6, 3) := by decide +kernel
theorem dX11_iterations_77 : decode cX11_iterations 77 = .ok (.bipush (-3), 2) := by decide +kernel
theorem dX11_iterations_79 : decode cX11_iterations 79 = .ok (.ireturn, 1) := by decide +kernel
theorem dX11_iterations_80 : decode cX11_iterations 80 = .ok (.aload_n 0, 1) := by decide +kernel
theorem dX11_iterations_81 : decode cX11_iterations 81 = .ok (.getfield 73, 3) := by decide +kernel
theorem dX11_iterations_84 : decode cX11_iterations 84 = .ok (.aload_n 0, 1) := by decide +kernel
theorem dX11_iterations_85 : decode cX11_iterations 85 = .ok (.getfield 12, 3) := by decide +kernel
theorem dX11_iterations_88 : decode cX11_iterations 88 = .ok (.invokevirtual 226, 3) := by decide +kernel
theorem dX11_iterations_91 : decode cX11_iterations 91 = .ok (.aload_n 0, 1) := by decide +kernel
theorem dX11_iterations_92 : decode cX11_iterations 92 = .ok (.getfield 73, 3) := by decide +kernel
theorem dX11_iterations_95 : decode cX11_iterations 95 = .ok (.aload_n 0, 1) := by decide +kernel
theorem dX11_iterations_96 : decode cX11_iterations 96 = .ok (.getfield 44, 3) := by decide +kernel
theorem dX11_iterations_99 : decode cX11_iterations 99 = .ok (.aload_n 0, 1) := by decide +kernel
theorem dX11_iterations_100 : decode cX11_iterations 100 = .ok (.getfield 44, 3) := by decide +kernel
theorem dX11_iterations_103 : decode cX11_iterations 103 = .ok (.iload 4, 2) := by decide +kernel
theorem dX11_iterations_105 : decode cX11_iterations 105 = .ok (.invokevirtual 229, 3) := by decide +kernel
theorem dX11_iterations_108 : decode cX11_iterations 108 = .ok (.invokevirtual 229, 3) := by decide +kernel
theorem dX11_iterations_111 : decode cX11_iterations 111 = .ok (.iload_n 2, 1) := by decide +kernel
theorem dX11_iterations_112 : decode cX11_iterations 112 = .ok (.iload_n 3, 1) := by decide +kernel
theorem dX11_iterations_113 : decode cX11_iterations 113 = .ok (.invokevirtual 253, 3) := by decide +kernel
theorem dX11_iterations_116 : decode cX11_iterations 116 = .ok (.istore 5, 2) := by decide +kernel
theorem dX11_iterations_118 : decode cX11_iterations 118 = .ok (.iload 5, 2) := by decide +kernel
theorem dX11_iterations_120 : decode cX11_iterations 120 = .ok (.iconst (-1), 1) := by decide +kernel
theorem dX11_iterations_121 : decode cX11_iterations 121 = .ok (.if_icmp .ne 8, 3) := by decide +kernel
theorem dX11_iterations_124 : decode cX11_iterations 124 = .ok (.bipush (-5), 2) := by decide +kernel
theorem dX11_iterations_126 : decode cX11_iterations 126 = .ok (.goto 5, 3) := by decide +kernel
theorem dX11_iterations_129 : decode cX11_iterations 129 = .ok (.iload 5, 2) := by decide +kernel
theorem dX11_iterations_131 : decode cX11_iterations 131 = .ok (.ireturn, 1) := by decide +kernel
def wo_X11_iterations : List Cond := [.fieldLink RX11 27 "DynamicLogicProver" "formulas" "LDynamicLogicProver$Shelf;", .methodLink RX11 196 yX9_has, .instanceMethod yX9_has, .selects RX9 yX9_has yX9_has, .initialized RX9]
def wd_X11_iterations : List Cond := .code yX11_iterations cX11_iterations 6 (some .int) :: (wo_X11_iterations ++ (wd_X9_has0 ++ (wsX110 ++ ([] : List Cond))))
theorem mo_X11_iterations {w : Cond} (i : Nat) (h : wo_X11_iterations[i]? = some w) : w ∈ wd_X11_iterations := List.mem_cons_of_mem _ (List.mem_append_left _ (List.mem_of_getElem? h))
theorem mb_X11_iterations_0 : ∀ w ∈ wd_X9_has0, w ∈ wd_X11_iterations := fun w h => List.mem_cons_of_mem _ (List.mem_append_right _ (List.mem_append_left _ h))
theorem mb_X11_iterations_1 : ∀ w ∈ wsX110, w ∈ wd_X11_iterations := fun w h => List.mem_cons_of_mem _ (List.mem_append_right _ (List.mem_append_right _ (List.mem_append_left _ h)))
theorem hd_X11_iterations : yX11_iterations.cls ≠ "java/lang/invoke/MethodHandle" ∧ yX11_iterations.cls ≠ "java/lang/invoke/VarHandle" ∧ (parseMethodDescriptor yX11_iterations.desc).map (fun d => d.parameters.length) = some 3 := by decide +kernel
set_option maxRecDepth 20000 in
theorem gw_X11_iterations : wd_X11_iterations.all goodWord = true := by decide +kernel
abbrev qc_X11_iterations (D : va_G) (x : Nat) (mo : Nat) (sm : Nat) (sc : Nat) (fo : Nat) (sf : Nat) (bu : Nat) (po : Nat) (te : Nat) (pa : Nat) (rw : Nat) (tr : Nat) (cl : Nat) (pt : Nat) (ru : Nat) (de : Nat) (fa : Nat) (fb : Nat) (fd : Nat) (g1 : Int32) (g2 : Int32) (g3 : Int32) (A : Nat → Prop) : Array Value → State → Outcome → State → Prop := va_Qi (fun (r : Int32) (uZ : Unit) => r = (-1)) (fun uZ tZ => kc_pos D A [] [] tZ) A
set_option maxHeartbeats 4000000 in
set_option maxRecDepth 100000 in
theorem ct_X11_iterations (l : Launch) (D : va_G) (x : Nat) (mo : Nat) (sm : Nat) (sc : Nat) (fo : Nat) (sf : Nat) (bu : Nat) (po : Nat) (te : Nat) (pa : Nat) (rw : Nat) (tr : Nat) (cl : Nat) (pt : Nat) (ru : Nat) (de : Nat) (fa : Nat) (fb : Nat) (fd : Nat) (g1 : Int32) (g2 : Int32) (g3 : Int32) (sz : Nat)  : Met l yX11_iterations wd_X11_iterations ({ frames := 1, cells := 0, slots := 0, locals := 21 }) (va_Pc [.ref x, .int g1, .int g2, .int g3] (kc_pre D [] [(x, .inr (11, [.ref mo, .ref sm, .ref sc, .ref fo, .ref sf, .ref bu, .ref po, .ref te, .ref pa, .ref rw, .ref tr, .ref cl, .ref pt, .ref ru, .ref de, .int 0, .int 0])), (fo, .inr (9, [.ref fa, .ref fb, .ref fd, .int 0]))] sz)) (qc_X11_iterations D x mo sm sc fo sf bu po te pa rw tr cl pt ru de fa fb fd g1 g2 g3 (va_A [(x, .inr (11, [.ref mo, .ref sm, .ref sc, .ref fo, .ref sf, .ref bu, .ref po, .ref te, .ref pa, .ref rw, .ref tr, .ref cl, .ref pt, .ref ru, .ref de, .int 0, .int 0])), (fo, .inr (9, [.ref fa, .ref fb, .ref fd, .int 0]))] sz)) 0 0 (va_A [(x, .inr (11, [.ref mo, .ref sm, .ref sc, .ref fo, .ref sf, .ref bu, .ref po, .ref te, .ref pa, .ref rw, .ref tr, .ref cl, .ref pt, .ref ru, .ref de, .int 0, .int 0])), (fo, .inr (9, [.ref fa, .ref fb, .ref fd, .int 0]))] sz) := by
  refine Met.ofW (cc := cX11_iterations) (maxL := 6) (ret := (some .int)) (by decide) rfl ?_
  intro p e s m args below meth c s₁ B hml hv
  obtain ⟨rfl, hsz, hP, hK, hN, hD0⟩ := hv
  have hx := B.exec
  have hb := B.bytes
  have hr := B.returns
  have hts := atoms_spec (ws := wd_X11_iterations) B.pre
  have hown : s.vm.findClass RX11 = some m.cls := findClass_of_methodNamed B.named
  have hlocks := B.notSynchronized
  subst hsz
  have hD := hD0.self (sz := s.heap.size)
  generalize hAe : va_A [(x, .inr (11, [.ref mo, .ref sm, .ref sc, .ref fo, .ref sf, .ref bu, .ref po, .ref te, .ref pa, .ref rw, .ref tr, .ref cl, .ref pt, .ref ru, .ref de, .int 0, .int 0])), (fo, .inr (9, [.ref fa, .ref fb, .ref fd, .int 0]))] s.heap.size = A at hD ⊢
  have hA : ∀ q : Nat, s.heap.size ≤ q → A q := fun q h => by rw [← hAe]; exact Or.inr h
  have hS : va_S A s.heap s.heap [] := va_S.rf
  have hiX11 : ∀ w ∈ wsX110, w ∈ wd_X11_iterations := mb_X11_iterations_1
  have hl := lv_entry ([.ref x, .int g1, .int g2, .int g3]) (n := 6) (Nat.le_of_ble_eq_true rfl)
  rw [lg_entry_eq]
  generalize (lg_sl ([.ref x, .int g1, .int g2, .int g3]) ++ List.replicate (6 - (lg_sl ([.ref x, .int g1, .int g2, .int g3])).length) Slot.unset).toArray = ls at hl ⊢
  have hl : lv_has ls 6 [(0, .ref x), (1, .int g1), (2, .int g2), (3, .int g3)] := hl
  refine lv_aload_n hx hb dX11_iterations_0 rfl (lv_at hl 0 rfl) ?_
  refine va_get (D := D) (ci := 11) (v := .ref fo) (C := RX11) (T := TX11) (N := 17) hx hb hts hiX11 hown hK hP 0 rfl rfl 3 (by decide) (hts (.fieldLink RX11 27 "DynamicLogicProver" "formulas" "LDynamicLogicProver$Shelf;") (mo_X11_iterations 0 rfl)) (fun _ h9 => h9) rfl dX11_iterations_1 ?_
  refine lv_iload_n hx hb dX11_iterations_4 rfl (lv_at hl 1 rfl) ?_
  refine kc_Vi (As := [.int g1]) (rest := []) (wr := [(x, .inr (11, [.ref mo, .ref sm, .ref sc, .ref fo, .ref sf, .ref bu, .ref po, .ref te, .ref pa, .ref rw, .ref tr, .ref cl, .ref pt, .ref ru, .ref de, .int 0, .int 0]))]) ⟨hx, hb, hml, hown, hts⟩ (ct_X9_has0 l D fo fa fb fd g1 _ ) (cwV 1 hts (kg_V (mo_X11_iterations 1 rfl) (mo_X11_iterations 2 rfl) (mo_X11_iterations 3 rfl) (mo_X11_iterations 4 rfl) (goodIn_sub mb_X11_iterations_0 gw_X9_has0)) rfl rfl rfl ⟨rfl, hd_X9_has⟩ ⟨Nat.le_of_ble_eq_true rfl, Nat.le_of_ble_eq_true rfl⟩) (RX9, TX9, 4) 9 1 rfl rfl rfl hK hN hP hD hS hA [1] [0] [] rfl rfl (by decide) (by decide) (by decide) rfl rfl hl.1 rfl (Nat.le_of_ble_eq_true rfl) dX11_iterations_5 ⟨Nat.le_of_ble_eq_true rfl, Nat.le_of_ble_eq_true rfl⟩ (fun r_1 u_2 H locs w_3 hP hD hK1 hS => ?_)
  have hP : va_P D vwCl [(x, .inr (11, [.ref mo, .ref sm, .ref sc, .ref fo, .ref sf, .ref bu, .ref po, .ref te, .ref pa, .ref rw, .ref tr, .ref cl, .ref pt, .ref ru, .ref de, .int 0, .int 0])), (fo, .inr (9, [.ref fa, .ref fb, .ref fd, .int 0]))] H := hP
  have hD : va_D A [(x, .inr (11, [.ref mo, .ref sm, .ref sc, .ref fo, .ref sf, .ref bu, .ref po, .ref te, .ref pa, .ref rw, .ref tr, .ref cl, .ref pt, .ref ru, .ref de, .int 0, .int 0])), (fo, .inr (9, [.ref fa, .ref fb, .ref fd, .int 0]))] := hD
  have w_3 : r_1 = 0 := w_3
  subst w_3
  refine lv_if_eq (tgt := 33) hx hb dX11_iterations_8 (by decide) (fun c_4 => ?_) (fun c_4 => ?_)
  · refine lv_iconst (v := (-1)) hx hb dX11_iterations_33 (by decide) ?_
    have hP9 := hP.sub (ws' := []) [] rfl
    have hD9 := hD.sub (ws' := []) [] (by decide) rfl
    have hK9 := hK.sub (tys' := []) [] rfl
    exact W.iret (v := (-1)) hx hb hr (fun tZ htZ hW => ⟨⟨(-1), (), rfl, rfl, by rw [htZ]; exact hP9, va_K.moved hW.alike hK9, hD9⟩, hS.F htZ⟩) hS.2.2 dX11_iterations_34
  · exact absurd c_4 (by decide)
theorem dX11_cycles_0 : decode cX11_cycles 0 = .ok (.aload_n 0, 1) := by decide +kernel
theorem dX11_cycles_1 : decode cX11_cycles 1 = .ok (.getfield 27, 3) := by decide +kernel
theorem dX11_cycles_4 : decode cX11_cycles 4 = .ok (.iload_n 1, 1) := by decide +kernel
theorem dX11_cycles_5 : decode cX11_cycles 5 = .ok (.invokevirtual 196, 3) := by decide +kernel
theorem dX11_cycles_8 : decode cX11_cycles 8 = .ok (.ifCond .ne 5, 3) := by decide +kernel
theorem dX11_cycles_11 : decode cX11_cycles 11 = .ok (.iconst (-1), 1) := by decide +kernel
theorem dX11_cycles_12 : decode cX11_cycles 12 = .ok (.ireturn, 1) := by decide +kernel
theorem dX11_cycles_13 : decode cX11_cycles 13 = .ok (.aload_n 0, 1) := by decide +kernel
theorem dX11_cycles_14 : decode cX11_cycles 14 = .ok (.iload_n 1, 1) := by decide +kernel
theorem dX11_cycles_15 : decode cX11_cycles 15 = .ok (.invokevirtual 235, 3) := by decide +kernel
theorem dX11_cycles_18 : decode cX11_cycles 18 = .ok (.ifCond .ne 6, 3) := by decide +kernel
theorem dX11_cycles_21 : decode cX11_cycles 21 = .ok (.bipush (-3), 2) := by decide +kernel
theorem dX11_cycles_23 : decode cX11_cycles 23 = .ok (.ireturn, 1) := by decide +kernel
theorem dX11_cycles_24 : decode cX11_cycles 24 = .ok (.iconst 0, 1) := by decide +kernel
theorem dX11_cycles_25 : decode cX11_cycles 25 = .ok (.istore_n 2, 1) := by decide +kernel
theorem dX11_cycles_26 : decode cX11_cycles 26 = .ok (.iconst 0, 1) := by decide +kernel
theorem dX11_cycles_27 : decode cX11_cycles 27 = .ok (.istore_n 3, 1) := by decide +kernel
theorem dX11_cycles_28 : decode cX11_cycles 28 = .ok (.iload_n 3, 1) := by decide +kernel
theorem dX11_cycles_29 : decode cX11_cycles 29 = .ok (.aload_n 0, 1) := by decide +kernel
theorem dX11_cycles_30 : decode cX11_cycles 30 = .ok (.getfield 12, 3) := by decide +kernel
theorem dX11_cycles_33 : decode cX11_cycles 33 = .ok (.invokevirtual 117, 3) := by decide +kernel
theorem dX11_cycles_36 : decode cX11_cycles 36 = .ok (.if_icmp .ge 34, 3) := by decide +kernel
theorem dX11_cycles_39 : decode cX11_cycles 39 = .ok (.aload_n 0, 1) := by decide +kernel
theorem dX11_cycles_40 : decode cX11_cycles 40 = .ok (.getfield 96, 3) := by decide +kernel
theorem dX11_cycles_43 : decode cX11_cycles 43 = .ok (.iload_n 3, 1) := by decide +kernel
theorem dX11_cycles_44 : decode cX11_cycles 44 = .ok (.invokevirtual 238, 3) := by decide +kernel
theorem dX11_cycles_47 : decode cX11_cycles 47 = .ok (.aload_n 0, 1) := by decide +kernel
theorem dX11_cycles_48 : decode cX11_cycles 48 = .ok (.getfield 96, 3) := by decide +kernel
theorem dX11_cycles_51 : decode cX11_cycles 51 = .ok (.iload_n 3, 1) := by decide +kernel
theorem dX11_cycles_52 : decode cX11_cycles 52 = .ok (.invokevirtual 256, 3) := by decide +kernel
theorem dX11_cycles_55 : decode cX11_cycles 55 = .ok (.ifCond .eq 9, 3) := by decide +kernel
theorem dX11_cycles_58 : decode cX11_cycles 58 = .ok (.iload_n 2, 1) := by decide +kernel
theorem dX11_cycles_59 : decode cX11_cycles 59 = .ok (.iconst 1, 1) := by decide +kernel
theorem dX11_cycles_60 : decode cX11_cycles 60 = .ok (.iload_n 3, 1) := by decide +kernel
theorem dX11_cycles_61 : decode cX11_cycles 61 = .ok (.ishl, 1) := by decide +kernel
theorem dX11_cycles_62 : decode cX11_cycles 62 = .ok (.ior, 1) := by decide +kernel
theorem dX11_cycles_63 : decode cX11_cycles 63 = .ok (.istore_n 2, 1) := by decide +kernel
theorem dX11_cycles_64 : decode cX11_cycles 64 = .ok (.iinc 3 1, 3) := by decide +kernel
theorem dX11_cycles_67 : decode cX11_cycles 67 = .ok (.goto (-39), 3) := by decide +kernel
theorem dX11_cycles_70 : decode cX11_cycles 70 = .ok (.iload_n 2, 1) := by decide +kernel
theorem dX11_cycles_71 : decode cX11_cycles 71 = .ok (.ireturn, 1) := by decide +kernel
def wo_X11_cycles : List Cond := [.fieldLink RX11 27 "DynamicLogicProver" "formulas" "LDynamicLogicProver$Shelf;", .methodLink RX11 196 yX9_has, .instanceMethod yX9_has, .selects RX9 yX9_has yX9_has, .initialized RX9]
def wd_X11_cycles : List Cond := .code yX11_cycles cX11_cycles 4 (some .int) :: (wo_X11_cycles ++ (wd_X9_has0 ++ (wsX110 ++ ([] : List Cond))))
theorem mo_X11_cycles {w : Cond} (i : Nat) (h : wo_X11_cycles[i]? = some w) : w ∈ wd_X11_cycles := List.mem_cons_of_mem _ (List.mem_append_left _ (List.mem_of_getElem? h))
theorem mb_X11_cycles_0 : ∀ w ∈ wd_X9_has0, w ∈ wd_X11_cycles := fun w h => List.mem_cons_of_mem _ (List.mem_append_right _ (List.mem_append_left _ h))
theorem mb_X11_cycles_1 : ∀ w ∈ wsX110, w ∈ wd_X11_cycles := fun w h => List.mem_cons_of_mem _ (List.mem_append_right _ (List.mem_append_right _ (List.mem_append_left _ h)))
theorem hd_X11_cycles : yX11_cycles.cls ≠ "java/lang/invoke/MethodHandle" ∧ yX11_cycles.cls ≠ "java/lang/invoke/VarHandle" ∧ (parseMethodDescriptor yX11_cycles.desc).map (fun d => d.parameters.length) = some 1 := by decide +kernel
set_option maxRecDepth 20000 in
theorem gw_X11_cycles : wd_X11_cycles.all goodWord = true := by decide +kernel
abbrev qc_X11_cycles (D : va_G) (x : Nat) (mo : Nat) (sm : Nat) (sc : Nat) (fo : Nat) (sf : Nat) (bu : Nat) (po : Nat) (te : Nat) (pa : Nat) (rw : Nat) (tr : Nat) (cl : Nat) (pt : Nat) (ru : Nat) (de : Nat) (fa : Nat) (fb : Nat) (fd : Nat) (g1 : Int32) (A : Nat → Prop) : Array Value → State → Outcome → State → Prop := va_Qi (fun (r : Int32) (uZ : Unit) => r = (-1)) (fun uZ tZ => kc_pos D A [] [] tZ) A
set_option maxHeartbeats 4000000 in
set_option maxRecDepth 100000 in
theorem ct_X11_cycles (l : Launch) (D : va_G) (x : Nat) (mo : Nat) (sm : Nat) (sc : Nat) (fo : Nat) (sf : Nat) (bu : Nat) (po : Nat) (te : Nat) (pa : Nat) (rw : Nat) (tr : Nat) (cl : Nat) (pt : Nat) (ru : Nat) (de : Nat) (fa : Nat) (fb : Nat) (fd : Nat) (g1 : Int32) (sz : Nat)  : Met l yX11_cycles wd_X11_cycles ({ frames := 1, cells := 0, slots := 0, locals := 21 }) (va_Pc [.ref x, .int g1] (kc_pre D [] [(x, .inr (11, [.ref mo, .ref sm, .ref sc, .ref fo, .ref sf, .ref bu, .ref po, .ref te, .ref pa, .ref rw, .ref tr, .ref cl, .ref pt, .ref ru, .ref de, .int 0, .int 0])), (fo, .inr (9, [.ref fa, .ref fb, .ref fd, .int 0]))] sz)) (qc_X11_cycles D x mo sm sc fo sf bu po te pa rw tr cl pt ru de fa fb fd g1 (va_A [(x, .inr (11, [.ref mo, .ref sm, .ref sc, .ref fo, .ref sf, .ref bu, .ref po, .ref te, .ref pa, .ref rw, .ref tr, .ref cl, .ref pt, .ref ru, .ref de, .int 0, .int 0])), (fo, .inr (9, [.ref fa, .ref fb, .ref fd, .int 0]))] sz)) 0 0 (va_A [(x, .inr (11, [.ref mo, .ref sm, .ref sc, .ref fo, .ref sf, .ref bu, .ref po, .ref te, .ref pa, .ref rw, .ref tr, .ref cl, .ref pt, .ref ru, .ref de, .int 0, .int 0])), (fo, .inr (9, [.ref fa, .ref fb, .ref fd, .int 0]))] sz) := by
  refine Met.ofW (cc := cX11_cycles) (maxL := 4) (ret := (some .int)) (by decide) rfl ?_
  intro p e s m args below meth c s₁ B hml hv
  obtain ⟨rfl, hsz, hP, hK, hN, hD0⟩ := hv
  have hx := B.exec
  have hb := B.bytes
  have hr := B.returns
  have hts := atoms_spec (ws := wd_X11_cycles) B.pre
  have hown : s.vm.findClass RX11 = some m.cls := findClass_of_methodNamed B.named
  have hlocks := B.notSynchronized
  subst hsz
  have hD := hD0.self (sz := s.heap.size)
  generalize hAe : va_A [(x, .inr (11, [.ref mo, .ref sm, .ref sc, .ref fo, .ref sf, .ref bu, .ref po, .ref te, .ref pa, .ref rw, .ref tr, .ref cl, .ref pt, .ref ru, .ref de, .int 0, .int 0])), (fo, .inr (9, [.ref fa, .ref fb, .ref fd, .int 0]))] s.heap.size = A at hD ⊢
  have hA : ∀ q : Nat, s.heap.size ≤ q → A q := fun q h => by rw [← hAe]; exact Or.inr h
  have hS : va_S A s.heap s.heap [] := va_S.rf
  have hiX11 : ∀ w ∈ wsX110, w ∈ wd_X11_cycles := mb_X11_cycles_1
  have hl := lv_entry ([.ref x, .int g1]) (n := 4) (Nat.le_of_ble_eq_true rfl)
  rw [lg_entry_eq]
  generalize (lg_sl ([.ref x, .int g1]) ++ List.replicate (4 - (lg_sl ([.ref x, .int g1])).length) Slot.unset).toArray = ls at hl ⊢
  have hl : lv_has ls 4 [(0, .ref x), (1, .int g1)] := hl
  refine lv_aload_n hx hb dX11_cycles_0 rfl (lv_at hl 0 rfl) ?_
  refine va_get (D := D) (ci := 11) (v := .ref fo) (C := RX11) (T := TX11) (N := 17) hx hb hts hiX11 hown hK hP 0 rfl rfl 3 (by decide) (hts (.fieldLink RX11 27 "DynamicLogicProver" "formulas" "LDynamicLogicProver$Shelf;") (mo_X11_cycles 0 rfl)) (fun _ h9 => h9) rfl dX11_cycles_1 ?_
  refine lv_iload_n hx hb dX11_cycles_4 rfl (lv_at hl 1 rfl) ?_
  refine kc_Vi (As := [.int g1]) (rest := []) (wr := [(x, .inr (11, [.ref mo, .ref sm, .ref sc, .ref fo, .ref sf, .ref bu, .ref po, .ref te, .ref pa, .ref rw, .ref tr, .ref cl, .ref pt, .ref ru, .ref de, .int 0, .int 0]))]) ⟨hx, hb, hml, hown, hts⟩ (ct_X9_has0 l D fo fa fb fd g1 _ ) (cwV 1 hts (kg_V (mo_X11_cycles 1 rfl) (mo_X11_cycles 2 rfl) (mo_X11_cycles 3 rfl) (mo_X11_cycles 4 rfl) (goodIn_sub mb_X11_cycles_0 gw_X9_has0)) rfl rfl rfl ⟨rfl, hd_X9_has⟩ ⟨Nat.le_of_ble_eq_true rfl, Nat.le_of_ble_eq_true rfl⟩) (RX9, TX9, 4) 9 1 rfl rfl rfl hK hN hP hD hS hA [1] [0] [] rfl rfl (by decide) (by decide) (by decide) rfl rfl hl.1 rfl (Nat.le_of_ble_eq_true rfl) dX11_cycles_5 ⟨Nat.le_of_ble_eq_true rfl, Nat.le_of_ble_eq_true rfl⟩ (fun r_1 u_2 H locs w_3 hP hD hK1 hS => ?_)
  have hP : va_P D vwCl [(x, .inr (11, [.ref mo, .ref sm, .ref sc, .ref fo, .ref sf, .ref bu, .ref po, .ref te, .ref pa, .ref rw, .ref tr, .ref cl, .ref pt, .ref ru, .ref de, .int 0, .int 0])), (fo, .inr (9, [.ref fa, .ref fb, .ref fd, .int 0]))] H := hP
  have hD : va_D A [(x, .inr (11, [.ref mo, .ref sm, .ref sc, .ref fo, .ref sf, .ref bu, .ref po, .ref te, .ref pa, .ref rw, .ref tr, .ref cl, .ref pt, .ref ru, .ref de, .int 0, .int 0])), (fo, .inr (9, [.ref fa, .ref fb, .ref fd, .int 0]))] := hD
  have w_3 : r_1 = 0 := w_3
  subst w_3
  refine lv_if_ne (tgt := 13) hx hb dX11_cycles_8 (by decide) (fun c_4 => ?_) (fun c_4 => ?_)
  · exact absurd c_4 (by decide)
  · refine lv_iconst (v := (-1)) hx hb dX11_cycles_11 (by decide) ?_
    have hP9 := hP.sub (ws' := []) [] rfl
    have hD9 := hD.sub (ws' := []) [] (by decide) rfl
    have hK9 := hK.sub (tys' := []) [] rfl
    exact W.iret (v := (-1)) hx hb hr (fun tZ htZ hW => ⟨⟨(-1), (), rfl, rfl, by rw [htZ]; exact hP9, va_K.moved hW.alike hK9, hD9⟩, hS.F htZ⟩) hS.2.2 dX11_cycles_12
theorem dX11_closureSize_0 : decode cX11_closureSize 0 = .ok (.aload_n 0, 1) := by decide +kernel
theorem dX11_closureSize_1 : decode cX11_closureSize 1 = .ok (.getfield 27, 3) := by decide +kernel
theorem dX11_closureSize_4 : decode cX11_closureSize 4 = .ok (.iload_n 1, 1) := by decide +kernel
theorem dX11_closureSize_5 : decode cX11_closureSize 5 = .ok (.invokevirtual 196, 3) := by decide +kernel
theorem dX11_closureSize_8 : decode cX11_closureSize 8 = .ok (.ifCond .ne 5, 3) := by decide +kernel
theorem dX11_closureSize_11 : decode cX11_closureSize 11 = .ok (.iconst (-1), 1) := by decide +kernel
theorem dX11_closureSize_12 : decode cX11_closureSize 12 = .ok (.ireturn, 1) := by decide +kernel
theorem dX11_closureSize_13 : decode cX11_closureSize 13 = .ok (.aload_n 0, 1) := by decide +kernel
theorem dX11_closureSize_14 : decode cX11_closureSize 14 = .ok (.getfield 80, 3) := by decide +kernel
theorem dX11_closureSize_17 : decode cX11_closureSize 17 = .ok (.aload_n 0, 1) := by decide +kernel
theorem dX11_closureSize_18 : decode cX11_closureSize 18 = .ok (.iload_n 1, 1) := by decide +kernel
theorem dX11_closureSize_19 : decode cX11_closureSize 19 = .ok (.invokevirtual 200, 3) := by decide +kernel
theorem dX11_closureSize_22 : decode cX11_closureSize 22 = .ok (.iconst 1, 1) := by decide +kernel
theorem dX11_closureSize_23 : decode cX11_closureSize 23 = .ok (.invokevirtual 259, 3) := by decide +kernel
theorem dX11_closureSize_26 : decode cX11_closureSize 26 = .ok (.aload_n 0, 1) := by decide +kernel
theorem dX11_closureSize_27 : decode cX11_closureSize 27 = .ok (.getfield 80, 3) := by decide +kernel
theorem dX11_closureSize_30 : decode cX11_closureSize 30 = .ok (.invokevirtual 263, 3) := by decide +kernel
theorem dX11_closureSize_33 : decode cX11_closureSize 33 = .ok (.ireturn, 1) := by decide +kernel
def wo_X11_closureSize : List Cond := [.fieldLink RX11 27 "DynamicLogicProver" "formulas" "LDynamicLogicProver$Shelf;", .methodLink RX11 196 yX9_has, .instanceMethod yX9_has, .selects RX9 yX9_has yX9_has, .initialized RX9]
def wd_X11_closureSize : List Cond := .code yX11_closureSize cX11_closureSize 2 (some .int) :: (wo_X11_closureSize ++ (wd_X9_has0 ++ (wsX110 ++ ([] : List Cond))))
theorem mo_X11_closureSize {w : Cond} (i : Nat) (h : wo_X11_closureSize[i]? = some w) : w ∈ wd_X11_closureSize := List.mem_cons_of_mem _ (List.mem_append_left _ (List.mem_of_getElem? h))
theorem mb_X11_closureSize_0 : ∀ w ∈ wd_X9_has0, w ∈ wd_X11_closureSize := fun w h => List.mem_cons_of_mem _ (List.mem_append_right _ (List.mem_append_left _ h))
theorem mb_X11_closureSize_1 : ∀ w ∈ wsX110, w ∈ wd_X11_closureSize := fun w h => List.mem_cons_of_mem _ (List.mem_append_right _ (List.mem_append_right _ (List.mem_append_left _ h)))
theorem hd_X11_closureSize : yX11_closureSize.cls ≠ "java/lang/invoke/MethodHandle" ∧ yX11_closureSize.cls ≠ "java/lang/invoke/VarHandle" ∧ (parseMethodDescriptor yX11_closureSize.desc).map (fun d => d.parameters.length) = some 1 := by decide +kernel
set_option maxRecDepth 20000 in
theorem gw_X11_closureSize : wd_X11_closureSize.all goodWord = true := by decide +kernel
abbrev qc_X11_closureSize (D : va_G) (x : Nat) (mo : Nat) (sm : Nat) (sc : Nat) (fo : Nat) (sf : Nat) (bu : Nat) (po : Nat) (te : Nat) (pa : Nat) (rw : Nat) (tr : Nat) (cl : Nat) (pt : Nat) (ru : Nat) (de : Nat) (fa : Nat) (fb : Nat) (fd : Nat) (g1 : Int32) (A : Nat → Prop) : Array Value → State → Outcome → State → Prop := va_Qi (fun (r : Int32) (uZ : Unit) => r = (-1)) (fun uZ tZ => kc_pos D A [] [] tZ) A
set_option maxHeartbeats 4000000 in
set_option maxRecDepth 100000 in
theorem ct_X11_closureSize (l : Launch) (D : va_G) (x : Nat) (mo : Nat) (sm : Nat) (sc : Nat) (fo : Nat) (sf : Nat) (bu : Nat) (po : Nat) (te : Nat) (pa : Nat) (rw : Nat) (tr : Nat) (cl : Nat) (pt : Nat) (ru : Nat) (de : Nat) (fa : Nat) (fb : Nat) (fd : Nat) (g1 : Int32) (sz : Nat)  : Met l yX11_closureSize wd_X11_closureSize ({ frames := 1, cells := 0, slots := 0, locals := 21 }) (va_Pc [.ref x, .int g1] (kc_pre D [] [(x, .inr (11, [.ref mo, .ref sm, .ref sc, .ref fo, .ref sf, .ref bu, .ref po, .ref te, .ref pa, .ref rw, .ref tr, .ref cl, .ref pt, .ref ru, .ref de, .int 0, .int 0])), (fo, .inr (9, [.ref fa, .ref fb, .ref fd, .int 0]))] sz)) (qc_X11_closureSize D x mo sm sc fo sf bu po te pa rw tr cl pt ru de fa fb fd g1 (va_A [(x, .inr (11, [.ref mo, .ref sm, .ref sc, .ref fo, .ref sf, .ref bu, .ref po, .ref te, .ref pa, .ref rw, .ref tr, .ref cl, .ref pt, .ref ru, .ref de, .int 0, .int 0])), (fo, .inr (9, [.ref fa, .ref fb, .ref fd, .int 0]))] sz)) 0 0 (va_A [(x, .inr (11, [.ref mo, .ref sm, .ref sc, .ref fo, .ref sf, .ref bu, .ref po, .ref te, .ref pa, .ref rw, .ref tr, .ref cl, .ref pt, .ref ru, .ref de, .int 0, .int 0])), (fo, .inr (9, [.ref fa, .ref fb, .ref fd, .int 0]))] sz) := by
  refine Met.ofW (cc := cX11_closureSize) (maxL := 2) (ret := (some .int)) (by decide) rfl ?_
  intro p e s m args below meth c s₁ B hml hv
  obtain ⟨rfl, hsz, hP, hK, hN, hD0⟩ := hv
  have hx := B.exec
  have hb := B.bytes
  have hr := B.returns
  have hts := atoms_spec (ws := wd_X11_closureSize) B.pre
  have hown : s.vm.findClass RX11 = some m.cls := findClass_of_methodNamed B.named
  have hlocks := B.notSynchronized
  subst hsz
  have hD := hD0.self (sz := s.heap.size)
  generalize hAe : va_A [(x, .inr (11, [.ref mo, .ref sm, .ref sc, .ref fo, .ref sf, .ref bu, .ref po, .ref te, .ref pa, .ref rw, .ref tr, .ref cl, .ref pt, .ref ru, .ref de, .int 0, .int 0])), (fo, .inr (9, [.ref fa, .ref fb, .ref fd, .int 0]))] s.heap.size = A at hD ⊢
  have hA : ∀ q : Nat, s.heap.size ≤ q → A q := fun q h => by rw [← hAe]; exact Or.inr h
  have hS : va_S A s.heap s.heap [] := va_S.rf
  have hiX11 : ∀ w ∈ wsX110, w ∈ wd_X11_closureSize := mb_X11_closureSize_1
  have hl := lv_entry ([.ref x, .int g1]) (n := 2) (Nat.le_of_ble_eq_true rfl)
  rw [lg_entry_eq]
  generalize (lg_sl ([.ref x, .int g1]) ++ List.replicate (2 - (lg_sl ([.ref x, .int g1])).length) Slot.unset).toArray = ls at hl ⊢
  have hl : lv_has ls 2 [(0, .ref x), (1, .int g1)] := hl
  refine lv_aload_n hx hb dX11_closureSize_0 rfl (lv_at hl 0 rfl) ?_
  refine va_get (D := D) (ci := 11) (v := .ref fo) (C := RX11) (T := TX11) (N := 17) hx hb hts hiX11 hown hK hP 0 rfl rfl 3 (by decide) (hts (.fieldLink RX11 27 "DynamicLogicProver" "formulas" "LDynamicLogicProver$Shelf;") (mo_X11_closureSize 0 rfl)) (fun _ h9 => h9) rfl dX11_closureSize_1 ?_
  refine lv_iload_n hx hb dX11_closureSize_4 rfl (lv_at hl 1 rfl) ?_
  refine kc_Vi (As := [.int g1]) (rest := []) (wr := [(x, .inr (11, [.ref mo, .ref sm, .ref sc, .ref fo, .ref sf, .ref bu, .ref po, .ref te, .ref pa, .ref rw, .ref tr, .ref cl, .ref pt, .ref ru, .ref de, .int 0, .int 0]))]) ⟨hx, hb, hml, hown, hts⟩ (ct_X9_has0 l D fo fa fb fd g1 _ ) (cwV 1 hts (kg_V (mo_X11_closureSize 1 rfl) (mo_X11_closureSize 2 rfl) (mo_X11_closureSize 3 rfl) (mo_X11_closureSize 4 rfl) (goodIn_sub mb_X11_closureSize_0 gw_X9_has0)) rfl rfl rfl ⟨rfl, hd_X9_has⟩ ⟨Nat.le_of_ble_eq_true rfl, Nat.le_of_ble_eq_true rfl⟩) (RX9, TX9, 4) 9 1 rfl rfl rfl hK hN hP hD hS hA [1] [0] [] rfl rfl (by decide) (by decide) (by decide) rfl rfl hl.1 rfl (Nat.le_of_ble_eq_true rfl) dX11_closureSize_5 ⟨Nat.le_of_ble_eq_true rfl, Nat.le_of_ble_eq_true rfl⟩ (fun r_1 u_2 H locs w_3 hP hD hK1 hS => ?_)
  have hP : va_P D vwCl [(x, .inr (11, [.ref mo, .ref sm, .ref sc, .ref fo, .ref sf, .ref bu, .ref po, .ref te, .ref pa, .ref rw, .ref tr, .ref cl, .ref pt, .ref ru, .ref de, .int 0, .int 0])), (fo, .inr (9, [.ref fa, .ref fb, .ref fd, .int 0]))] H := hP
  have hD : va_D A [(x, .inr (11, [.ref mo, .ref sm, .ref sc, .ref fo, .ref sf, .ref bu, .ref po, .ref te, .ref pa, .ref rw, .ref tr, .ref cl, .ref pt, .ref ru, .ref de, .int 0, .int 0])), (fo, .inr (9, [.ref fa, .ref fb, .ref fd, .int 0]))] := hD
  have w_3 : r_1 = 0 := w_3
  subst w_3
  refine lv_if_ne (tgt := 13) hx hb dX11_closureSize_8 (by decide) (fun c_4 => ?_) (fun c_4 => ?_)
  · exact absurd c_4 (by decide)
  · refine lv_iconst (v := (-1)) hx hb dX11_closureSize_11 (by decide) ?_
    have hP9 := hP.sub (ws' := []) [] rfl
    have hD9 := hD.sub (ws' := []) [] (by decide) rfl
    have hK9 := hK.sub (tys' := []) [] rfl
    exact W.iret (v := (-1)) hx hb hr (fun tZ htZ hW => ⟨⟨(-1), (), rfl, rfl, by rw [htZ]; exact hP9, va_K.moved hW.alike hK9, hD9⟩, hS.F htZ⟩) hS.2.2 dX11_closureSize_12
theorem dX11_baseMembers_0 : decode cX11_baseMembers 0 = .ok (.aload_n 0, 1) := by decide +kernel
theorem dX11_baseMembers_1 : decode cX11_baseMembers 1 = .ok (.getfield 27, 3) := by decide +kernel
theorem dX11_baseMembers_4 : decode cX11_baseMembers 4 = .ok (.iload_n 1, 1) := by decide +kernel
theorem dX11_baseMembers_5 : decode cX11_baseMembers 5 = .ok (.invokevirtual 196, 3) := by decide +kernel
theorem dX11_baseMembers_8 : decode cX11_baseMembers 8 = .ok (.ifCond .ne 5, 3) := by decide +kernel
theorem dX11_baseMembers_11 : decode cX11_baseMembers 11 = .ok (.iconst (-1), 1) := by decide +kernel
theorem dX11_baseMembers_12 : decode cX11_baseMembers 12 = .ok (.ireturn, 1) := by decide +kernel
theorem dX11_baseMembers_13 : decode cX11_baseMembers 13 = .ok (.aload_n 0, 1) := by decide +kernel
theorem dX11_baseMembers_14 : decode cX11_baseMembers 14 = .ok (.getfield 80, 3) := by decide +kernel
theorem dX11_baseMembers_17 : decode cX11_baseMembers 17 = .ok (.aload_n 0, 1) := by decide +kernel
theorem dX11_baseMembers_18 : decode cX11_baseMembers 18 = .ok (.iload_n 1, 1) := by decide +kernel
theorem dX11_baseMembers_19 : decode cX11_baseMembers 19 = .ok (.invokevirtual 200, 3) := by decide +kernel
theorem dX11_baseMembers_22 : decode cX11_baseMembers 22 = .ok (.iconst 1, 1) := by decide +kernel
theorem dX11_baseMembers_23 : decode cX11_baseMembers 23 = .ok (.invokevirtual 259, 3) := by decide +kernel
theorem dX11_baseMembers_26 : decode cX11_baseMembers 26 = .ok (.aload_n 0, 1) := by decide +kernel
theorem dX11_baseMembers_27 : decode cX11_baseMembers 27 = .ok (.getfield 80, 3) := by decide +kernel
theorem dX11_baseMembers_30 : decode cX11_baseMembers 30 = .ok (.invokevirtual 264, 3) := by decide +kernel
theorem dX11_baseMembers_33 : decode cX11_baseMembers 33 = .ok (.ireturn, 1) := by decide +kernel
def wo_X11_baseMembers : List Cond := [.fieldLink RX11 27 "DynamicLogicProver" "formulas" "LDynamicLogicProver$Shelf;", .methodLink RX11 196 yX9_has, .instanceMethod yX9_has, .selects RX9 yX9_has yX9_has, .initialized RX9]
def wd_X11_baseMembers : List Cond := .code yX11_baseMembers cX11_baseMembers 2 (some .int) :: (wo_X11_baseMembers ++ (wd_X9_has0 ++ (wsX110 ++ ([] : List Cond))))
theorem mo_X11_baseMembers {w : Cond} (i : Nat) (h : wo_X11_baseMembers[i]? = some w) : w ∈ wd_X11_baseMembers := List.mem_cons_of_mem _ (List.mem_append_left _ (List.mem_of_getElem? h))
theorem mb_X11_baseMembers_0 : ∀ w ∈ wd_X9_has0, w ∈ wd_X11_baseMembers := fun w h => List.mem_cons_of_mem _ (List.mem_append_right _ (List.mem_append_left _ h))
theorem mb_X11_baseMembers_1 : ∀ w ∈ wsX110, w ∈ wd_X11_baseMembers := fun w h => List.mem_cons_of_mem _ (List.mem_append_right _ (List.mem_append_right _ (List.mem_append_left _ h)))
theorem hd_X11_baseMembers : yX11_baseMembers.cls ≠ "java/lang/invoke/MethodHandle" ∧ yX11_baseMembers.cls ≠ "java/lang/invoke/VarHandle" ∧ (parseMethodDescriptor yX11_baseMembers.desc).map (fun d => d.parameters.length) = some 1 := by decide +kernel
set_option maxRecDepth 20000 in
theorem gw_X11_baseMembers : wd_X11_baseMembers.all goodWord = true := by decide +kernel
abbrev qc_X11_baseMembers (D : va_G) (x : Nat) (mo : Nat) (sm : Nat) (sc : Nat) (fo : Nat) (sf : Nat) (bu : Nat) (po : Nat) (te : Nat) (pa : Nat) (rw : Nat) (tr : Nat) (cl : Nat) (pt : Nat) (ru : Nat) (de : Nat) (fa : Nat) (fb : Nat) (fd : Nat) (g1 : Int32) (A : Nat → Prop) : Array Value → State → Outcome → State → Prop := va_Qi (fun (r : Int32) (uZ : Unit) => r = (-1)) (fun uZ tZ => kc_pos D A [] [] tZ) A
set_option maxHeartbeats 4000000 in
set_option maxRecDepth 100000 in
theorem ct_X11_baseMembers (l : Launch) (D : va_G) (x : Nat) (mo : Nat) (sm : Nat) (sc : Nat) (fo : Nat) (sf : Nat) (bu : Nat) (po : Nat) (te : Nat) (pa : Nat) (rw : Nat) (tr : Nat) (cl : Nat) (pt : Nat) (ru : Nat) (de : Nat) (fa : Nat) (fb : Nat) (fd : Nat) (g1 : Int32) (sz : Nat)  : Met l yX11_baseMembers wd_X11_baseMembers ({ frames := 1, cells := 0, slots := 0, locals := 21 }) (va_Pc [.ref x, .int g1] (kc_pre D [] [(x, .inr (11, [.ref mo, .ref sm, .ref sc, .ref fo, .ref sf, .ref bu, .ref po, .ref te, .ref pa, .ref rw, .ref tr, .ref cl, .ref pt, .ref ru, .ref de, .int 0, .int 0])), (fo, .inr (9, [.ref fa, .ref fb, .ref fd, .int 0]))] sz)) (qc_X11_baseMembers D x mo sm sc fo sf bu po te pa rw tr cl pt ru de fa fb fd g1 (va_A [(x, .inr (11, [.ref mo, .ref sm, .ref sc, .ref fo, .ref sf, .ref bu, .ref po, .ref te, .ref pa, .ref rw, .ref tr, .ref cl, .ref pt, .ref ru, .ref de, .int 0, .int 0])), (fo, .inr (9, [.ref fa, .ref fb, .ref fd, .int 0]))] sz)) 0 0 (va_A [(x, .inr (11, [.ref mo, .ref sm, .ref sc, .ref fo, .ref sf, .ref bu, .ref po, .ref te, .ref pa, .ref rw, .ref tr, .ref cl, .ref pt, .ref ru, .ref de, .int 0, .int 0])), (fo, .inr (9, [.ref fa, .ref fb, .ref fd, .int 0]))] sz) := by
  refine Met.ofW (cc := cX11_baseMembers) (maxL := 2) (ret := (some .int)) (by decide) rfl ?_
  intro p e s m args below meth c s₁ B hml hv
  obtain ⟨rfl, hsz, hP, hK, hN, hD0⟩ := hv
  have hx := B.exec
  have hb := B.bytes
  have hr := B.returns
  have hts := atoms_spec (ws := wd_X11_baseMembers) B.pre
  have hown : s.vm.findClass RX11 = some m.cls := findClass_of_methodNamed B.named
  have hlocks := B.notSynchronized
  subst hsz
  have hD := hD0.self (sz := s.heap.size)
  generalize hAe : va_A [(x, .inr (11, [.ref mo, .ref sm, .ref sc, .ref fo, .ref sf, .ref bu, .ref po, .ref te, .ref pa, .ref rw, .ref tr, .ref cl, .ref pt, .ref ru, .ref de, .int 0, .int 0])), (fo, .inr (9, [.ref fa, .ref fb, .ref fd, .int 0]))] s.heap.size = A at hD ⊢
  have hA : ∀ q : Nat, s.heap.size ≤ q → A q := fun q h => by rw [← hAe]; exact Or.inr h
  have hS : va_S A s.heap s.heap [] := va_S.rf
  have hiX11 : ∀ w ∈ wsX110, w ∈ wd_X11_baseMembers := mb_X11_baseMembers_1
  have hl := lv_entry ([.ref x, .int g1]) (n := 2) (Nat.le_of_ble_eq_true rfl)
  rw [lg_entry_eq]
  generalize (lg_sl ([.ref x, .int g1]) ++ List.replicate (2 - (lg_sl ([.ref x, .int g1])).length) Slot.unset).toArray = ls at hl ⊢
  have hl : lv_has ls 2 [(0, .ref x), (1, .int g1)] := hl
  refine lv_aload_n hx hb dX11_baseMembers_0 rfl (lv_at hl 0 rfl) ?_
  refine va_get (D := D) (ci := 11) (v := .ref fo) (C := RX11) (T := TX11) (N := 17) hx hb hts hiX11 hown hK hP 0 rfl rfl 3 (by decide) (hts (.fieldLink RX11 27 "DynamicLogicProver" "formulas" "LDynamicLogicProver$Shelf;") (mo_X11_baseMembers 0 rfl)) (fun _ h9 => h9) rfl dX11_baseMembers_1 ?_
  refine lv_iload_n hx hb dX11_baseMembers_4 rfl (lv_at hl 1 rfl) ?_
  refine kc_Vi (As := [.int g1]) (rest := []) (wr := [(x, .inr (11, [.ref mo, .ref sm, .ref sc, .ref fo, .ref sf, .ref bu, .ref po, .ref te, .ref pa, .ref rw, .ref tr, .ref cl, .ref pt, .ref ru, .ref de, .int 0, .int 0]))]) ⟨hx, hb, hml, hown, hts⟩ (ct_X9_has0 l D fo fa fb fd g1 _ ) (cwV 1 hts (kg_V (mo_X11_baseMembers 1 rfl) (mo_X11_baseMembers 2 rfl) (mo_X11_baseMembers 3 rfl) (mo_X11_baseMembers 4 rfl) (goodIn_sub mb_X11_baseMembers_0 gw_X9_has0)) rfl rfl rfl ⟨rfl, hd_X9_has⟩ ⟨Nat.le_of_ble_eq_true rfl, Nat.le_of_ble_eq_true rfl⟩) (RX9, TX9, 4) 9 1 rfl rfl rfl hK hN hP hD hS hA [1] [0] [] rfl rfl (by decide) (by decide) (by decide) rfl rfl hl.1 rfl (Nat.le_of_ble_eq_true rfl) dX11_baseMembers_5 ⟨Nat.le_of_ble_eq_true rfl, Nat.le_of_ble_eq_true rfl⟩ (fun r_1 u_2 H locs w_3 hP hD hK1 hS => ?_)
  have hP : va_P D vwCl [(x, .inr (11, [.ref mo, .ref sm, .ref sc, .ref fo, .ref sf, .ref bu, .ref po, .ref te, .ref pa, .ref rw, .ref tr, .ref cl, .ref pt, .ref ru, .ref de, .int 0, .int 0])), (fo, .inr (9, [.ref fa, .ref fb, .ref fd, .int 0]))] H := hP
  have hD : va_D A [(x, .inr (11, [.ref mo, .ref sm, .ref sc, .ref fo, .ref sf, .ref bu, .ref po, .ref te, .ref pa, .ref rw, .ref tr, .ref cl, .ref pt, .ref ru, .ref de, .int 0, .int 0])), (fo, .inr (9, [.ref fa, .ref fb, .ref fd, .int 0]))] := hD
  have w_3 : r_1 = 0 := w_3
  subst w_3
  refine lv_if_ne (tgt := 13) hx hb dX11_baseMembers_8 (by decide) (fun c_4 => ?_) (fun c_4 => ?_)
  · exact absurd c_4 (by decide)
  · refine lv_iconst (v := (-1)) hx hb dX11_baseMembers_11 (by decide) ?_
    have hP9 := hP.sub (ws' := []) [] rfl
    have hD9 := hD.sub (ws' := []) [] (by decide) rfl
    have hK9 := hK.sub (tys' := []) [] rfl
    exact W.iret (v := (-1)) hx hb hr (fun tZ htZ hW => ⟨⟨(-1), (), rfl, rfl, by rw [htZ]; exact hP9, va_K.moved hW.alike hK9, hD9⟩, hS.F htZ⟩) hS.2.2 dX11_baseMembers_12
theorem dX11_closureIndex_0 : decode cX11_closureIndex 0 = .ok (.aload_n 0, 1) := by decide +kernel
theorem dX11_closureIndex_1 : decode cX11_closureIndex 1 = .ok (.getfield 27, 3) := by decide +kernel
theorem dX11_closureIndex_4 : decode cX11_closureIndex 4 = .ok (.iload_n 1, 1) := by decide +kernel
theorem dX11_closureIndex_5 : decode cX11_closureIndex 5 = .ok (.invokevirtual 196, 3) := by decide +kernel
theorem dX11_closureIndex_8 : decode cX11_closureIndex 8 = .ok (.ifCond .eq 14, 3) := by decide +kernel
theorem dX11_closureIndex_11 : decode cX11_closureIndex 11 = .ok (.aload_n 0, 1) := by decide +kernel
theorem dX11_closureIndex_12 : decode cX11_closureIndex 12 = .ok (.getfield 27, 3) := by decide +kernel
theorem dX11_closureIndex_15 : decode cX11_closureIndex 15 = .ok (.iload_n 2, 1) := by decide +kernel
theorem dX11_closureIndex_16 : decode cX11_closureIndex 16 = .ok (.invokevirtual 196, 3) := by decide +kernel
theorem dX11_closureIndex_19 : decode cX11_closureIndex 19 = .ok (.ifCond .ne 5, 3) := by decide +kernel
theorem dX11_closureIndex_22 : decode cX11_closureIndex 22 = .ok (.iconst (-1), 1) := by decide +kernel
theorem dX11_closureIndex_23 : decode cX11_closureIndex 23 = .ok (.ireturn, 1) := by decide +kernel
theorem dX11_closureIndex_24 : decode cX11_closureIndex 24 = .ok (.aload_n 0, 1) := by decide +kernel
theorem dX11_closureIndex_25 : decode cX11_closureIndex 25 = .ok (.getfield 80, 3) := by decide +kernel
theorem dX11_closureIndex_28 : decode cX11_closureIndex 28 = .ok (.aload_n 0, 1) := by decide +kernel
theorem dX11_closureIndex_29 : decode cX11_closureIndex 29 = .ok (.iload_n 1, 1) := by decide +kernel
theorem dX11_closureIndex_30 : decode cX11_closureIndex 30 = .ok (.invokevirtual 200, 3) := by decide +kernel
theorem dX11_closureIndex_33 : decode cX11_closureIndex 33 = .ok (.iconst 1, 1) := by decide +kernel
theorem dX11_closureIndex_34 : decode cX11_closureIndex 34 = .ok (.invokevirtual 259, 3) := by decide +kernel
theorem dX11_closureIndex_37 : decode cX11_closureIndex 37 = .ok (.aload_n 0, 1) := by decide +kernel
theorem dX11_closureIndex_38 : decode cX11_closureIndex 38 = .ok (.getfield 80, 3) := by decide +kernel
theorem dX11_closureIndex_41 : decode cX11_closureIndex 41 = .ok (.invokevirtual 267, 3) := by decide +kernel
theorem dX11_closureIndex_44 : decode cX11_closureIndex 44 = .ok (.aload_n 0, 1) := by decide +kernel
theorem dX11_closureIndex_45 : decode cX11_closureIndex 45 = .ok (.getfield 80, 3) := by decide +kernel
theorem dX11_closureIndex_48 : decode cX11_closureIndex 48 = .ok (.aload_n 0, 1) := by decide +kernel
theorem dX11_closureIndex_49 : decode cX11_closureIndex 49 = .ok (.getfield 27, 3) := by decide +kernel
theorem dX11_closureIndex_52 : decode cX11_closureIndex 52 = .ok (.iload_n 2, 1) := by decide +kernel
theorem dX11_closureIndex_53 : decode cX11_closureIndex 53 = .ok (.aload_n 0, 1) := by decide +kernel
theorem dX11_closureIndex_54 : decode cX11_closureIndex 54 = .ok (.getfield 44, 3) := by decide +kernel
theorem dX11_closureIndex_57 : decode cX11_closureIndex 57 = .ok (.invokevirtual 209, 3) := by decide +kernel
theorem dX11_closureIndex_60 : decode cX11_closureIndex 60 = .ok (.invokevirtual 270, 3) := by decide +kernel
theorem dX11_closureIndex_63 : decode cX11_closureIndex 63 = .ok (.istore_n 3, 1) := by decide +kernel
theorem dX11_closureIndex_64 : decode cX11_closureIndex 64 = .ok (.iload_n 3, 1) := by decide +kernel
theorem dX11_closureIndex_65 : decode cX11_closureIndex 65 = .ok (.iconst (-1), 1) := by decide +kernel
theorem dX11_closureIndex_66 : decode cX11_closureIndex 66 = .ok (.if_icmp .ne 8, 3) := by decide +kernel
theorem dX11_closureIndex_69 : decode cX11_closureIndex 69 = .ok (.bipush (-5), 2) := by decide +kernel
theorem dX11_closureIndex_71 : decode cX11_closureIndex 71 = .ok (.goto 4, 3) := by decide +kernel
theorem dX11_closureIndex_74 : decode cX11_closureIndex 74 = .ok (.iload_n 3, 1) := by decide +kernel
theorem dX11_closureIndex_75 : decode cX11_closureIndex 75 = .ok (.ireturn, 1) := by decide +kernel
def wo_X11_closureIndex : List Cond := [.fieldLink RX11 27 "DynamicLogicProver" "formulas" "LDynamicLogicProver$Shelf;", .methodLink RX11 196 yX9_has, .instanceMethod yX9_has, .selects RX9 yX9_has yX9_has, .initialized RX9]
def wd_X11_closureIndex : List Cond := .code yX11_closureIndex cX11_closureIndex 4 (some .int) :: (wo_X11_closureIndex ++ (wd_X9_has0 ++ (wsX110 ++ ([] : List Cond))))
theorem mo_X11_closureIndex {w : Cond} (i : Nat) (h : wo_X11_closureIndex[i]? = some w) : w ∈ wd_X11_closureIndex := List.mem_cons_of_mem _ (List.mem_append_left _ (List.mem_of_getElem? h))
theorem mb_X11_closureIndex_0 : ∀ w ∈ wd_X9_has0, w ∈ wd_X11_closureIndex := fun w h => List.mem_cons_of_mem _ (List.mem_append_right _ (List.mem_append_left _ h))
theorem mb_X11_closureIndex_1 : ∀ w ∈ wsX110, w ∈ wd_X11_closureIndex := fun w h => List.mem_cons_of_mem _ (List.mem_append_right _ (List.mem_append_right _ (List.mem_append_left _ h)))
theorem hd_X11_closureIndex : yX11_closureIndex.cls ≠ "java/lang/invoke/MethodHandle" ∧ yX11_closureIndex.cls ≠ "java/lang/invoke/VarHandle" ∧ (parseMethodDescriptor yX11_closureIndex.desc).map (fun d => d.parameters.length) = some 2 := by decide +kernel
set_option maxRecDepth 20000 in
theorem gw_X11_closureIndex : wd_X11_closureIndex.all goodWord = true := by decide +kernel
abbrev qc_X11_closureIndex (D : va_G) (x : Nat) (mo : Nat) (sm : Nat) (sc : Nat) (fo : Nat) (sf : Nat) (bu : Nat) (po : Nat) (te : Nat) (pa : Nat) (rw : Nat) (tr : Nat) (cl : Nat) (pt : Nat) (ru : Nat) (de : Nat) (fa : Nat) (fb : Nat) (fd : Nat) (g1 : Int32) (g2 : Int32) (A : Nat → Prop) : Array Value → State → Outcome → State → Prop := va_Qi (fun (r : Int32) (uZ : Unit) => r = (-1)) (fun uZ tZ => kc_pos D A [] [] tZ) A
set_option maxHeartbeats 4000000 in
set_option maxRecDepth 100000 in
theorem ct_X11_closureIndex (l : Launch) (D : va_G) (x : Nat) (mo : Nat) (sm : Nat) (sc : Nat) (fo : Nat) (sf : Nat) (bu : Nat) (po : Nat) (te : Nat) (pa : Nat) (rw : Nat) (tr : Nat) (cl : Nat) (pt : Nat) (ru : Nat) (de : Nat) (fa : Nat) (fb : Nat) (fd : Nat) (g1 : Int32) (g2 : Int32) (sz : Nat)  : Met l yX11_closureIndex wd_X11_closureIndex ({ frames := 1, cells := 0, slots := 0, locals := 21 }) (va_Pc [.ref x, .int g1, .int g2] (kc_pre D [] [(x, .inr (11, [.ref mo, .ref sm, .ref sc, .ref fo, .ref sf, .ref bu, .ref po, .ref te, .ref pa, .ref rw, .ref tr, .ref cl, .ref pt, .ref ru, .ref de, .int 0, .int 0])), (fo, .inr (9, [.ref fa, .ref fb, .ref fd, .int 0]))] sz)) (qc_X11_closureIndex D x mo sm sc fo sf bu po te pa rw tr cl pt ru de fa fb fd g1 g2 (va_A [(x, .inr (11, [.ref mo, .ref sm, .ref sc, .ref fo, .ref sf, .ref bu, .ref po, .ref te, .ref pa, .ref rw, .ref tr, .ref cl, .ref pt, .ref ru, .ref de, .int 0, .int 0])), (fo, .inr (9, [.ref fa, .ref fb, .ref fd, .int 0]))] sz)) 0 0 (va_A [(x, .inr (11, [.ref mo, .ref sm, .ref sc, .ref fo, .ref sf, .ref bu, .ref po, .ref te, .ref pa, .ref rw, .ref tr, .ref cl, .ref pt, .ref ru, .ref de, .int 0, .int 0])), (fo, .inr (9, [.ref fa, .ref fb, .ref fd, .int 0]))] sz) := by
  refine Met.ofW (cc := cX11_closureIndex) (maxL := 4) (ret := (some .int)) (by decide) rfl ?_
  intro p e s m args below meth c s₁ B hml hv
  obtain ⟨rfl, hsz, hP, hK, hN, hD0⟩ := hv
  have hx := B.exec
  have hb := B.bytes
  have hr := B.returns
  have hts := atoms_spec (ws := wd_X11_closureIndex) B.pre
  have hown : s.vm.findClass RX11 = some m.cls := findClass_of_methodNamed B.named
  have hlocks := B.notSynchronized
  subst hsz
  have hD := hD0.self (sz := s.heap.size)
  generalize hAe : va_A [(x, .inr (11, [.ref mo, .ref sm, .ref sc, .ref fo, .ref sf, .ref bu, .ref po, .ref te, .ref pa, .ref rw, .ref tr, .ref cl, .ref pt, .ref ru, .ref de, .int 0, .int 0])), (fo, .inr (9, [.ref fa, .ref fb, .ref fd, .int 0]))] s.heap.size = A at hD ⊢
  have hA : ∀ q : Nat, s.heap.size ≤ q → A q := fun q h => by rw [← hAe]; exact Or.inr h
  have hS : va_S A s.heap s.heap [] := va_S.rf
  have hiX11 : ∀ w ∈ wsX110, w ∈ wd_X11_closureIndex := mb_X11_closureIndex_1
  have hl := lv_entry ([.ref x, .int g1, .int g2]) (n := 4) (Nat.le_of_ble_eq_true rfl)
  rw [lg_entry_eq]
  generalize (lg_sl ([.ref x, .int g1, .int g2]) ++ List.replicate (4 - (lg_sl ([.ref x, .int g1, .int g2])).length) Slot.unset).toArray = ls at hl ⊢
  have hl : lv_has ls 4 [(0, .ref x), (1, .int g1), (2, .int g2)] := hl
  refine lv_aload_n hx hb dX11_closureIndex_0 rfl (lv_at hl 0 rfl) ?_
  refine va_get (D := D) (ci := 11) (v := .ref fo) (C := RX11) (T := TX11) (N := 17) hx hb hts hiX11 hown hK hP 0 rfl rfl 3 (by decide) (hts (.fieldLink RX11 27 "DynamicLogicProver" "formulas" "LDynamicLogicProver$Shelf;") (mo_X11_closureIndex 0 rfl)) (fun _ h9 => h9) rfl dX11_closureIndex_1 ?_
  refine lv_iload_n hx hb dX11_closureIndex_4 rfl (lv_at hl 1 rfl) ?_
  refine kc_Vi (As := [.int g1]) (rest := []) (wr := [(x, .inr (11, [.ref mo, .ref sm, .ref sc, .ref fo, .ref sf, .ref bu, .ref po, .ref te, .ref pa, .ref rw, .ref tr, .ref cl, .ref pt, .ref ru, .ref de, .int 0, .int 0]))]) ⟨hx, hb, hml, hown, hts⟩ (ct_X9_has0 l D fo fa fb fd g1 _ ) (cwV 1 hts (kg_V (mo_X11_closureIndex 1 rfl) (mo_X11_closureIndex 2 rfl) (mo_X11_closureIndex 3 rfl) (mo_X11_closureIndex 4 rfl) (goodIn_sub mb_X11_closureIndex_0 gw_X9_has0)) rfl rfl rfl ⟨rfl, hd_X9_has⟩ ⟨Nat.le_of_ble_eq_true rfl, Nat.le_of_ble_eq_true rfl⟩) (RX9, TX9, 4) 9 1 rfl rfl rfl hK hN hP hD hS hA [1] [0] [] rfl rfl (by decide) (by decide) (by decide) rfl rfl hl.1 rfl (Nat.le_of_ble_eq_true rfl) dX11_closureIndex_5 ⟨Nat.le_of_ble_eq_true rfl, Nat.le_of_ble_eq_true rfl⟩ (fun r_1 u_2 H locs w_3 hP hD hK1 hS => ?_)
  have hP : va_P D vwCl [(x, .inr (11, [.ref mo, .ref sm, .ref sc, .ref fo, .ref sf, .ref bu, .ref po, .ref te, .ref pa, .ref rw, .ref tr, .ref cl, .ref pt, .ref ru, .ref de, .int 0, .int 0])), (fo, .inr (9, [.ref fa, .ref fb, .ref fd, .int 0]))] H := hP
  have hD : va_D A [(x, .inr (11, [.ref mo, .ref sm, .ref sc, .ref fo, .ref sf, .ref bu, .ref po, .ref te, .ref pa, .ref rw, .ref tr, .ref cl, .ref pt, .ref ru, .ref de, .int 0, .int 0])), (fo, .inr (9, [.ref fa, .ref fb, .ref fd, .int 0]))] := hD
  have w_3 : r_1 = 0 := w_3
  subst w_3
  refine lv_if_eq (tgt := 22) hx hb dX11_closureIndex_8 (by decide) (fun c_4 => ?_) (fun c_4 => ?_)
  · refine lv_iconst (v := (-1)) hx hb dX11_closureIndex_22 (by decide) ?_
    have hP9 := hP.sub (ws' := []) [] rfl
    have hD9 := hD.sub (ws' := []) [] (by decide) rfl
    have hK9 := hK.sub (tys' := []) [] rfl
    exact W.iret (v := (-1)) hx hb hr (fun tZ htZ hW => ⟨⟨(-1), (), rfl, rfl, by rw [htZ]; exact hP9, va_K.moved hW.alike hK9, hD9⟩, hS.F htZ⟩) hS.2.2 dX11_closureIndex_23
  · exact absurd c_4 (by decide)
theorem dX11_storeMember_0 : decode cX11_storeMember 0 = .ok (.aload_n 0, 1) := by decide +kernel
theorem dX11_storeMember_1 : decode cX11_storeMember 1 = .ok (.getfield 27, 3) := by decide +kernel
theorem dX11_storeMember_4 : decode cX11_storeMember 4 = .ok (.iload_n 1, 1) := by decide +kernel
theorem dX11_storeMember_5 : decode cX11_storeMember 5 = .ok (.invokevirtual 196, 3) := by decide +kernel
theorem dX11_storeMember_8 : decode cX11_storeMember 8 = .ok (.ifCond .ne 5, 3) := by decide +kernel
theorem dX11_storeMember_11 : decode cX11_storeMember 11 = .ok (.iconst (-1), 1) := by decide +kernel
theorem dX11_storeMember_12 : decode cX11_storeMember 12 = .ok (.ireturn, 1) := by decide +kernel
theorem dX11_storeMember_13 : decode cX11_storeMember 13 = .ok (.aload_n 0, 1) := by decide +kernel
theorem dX11_storeMember_14 : decode cX11_storeMember 14 = .ok (.getfield 80, 3) := by decide +kernel
theorem dX11_storeMember_17 : decode cX11_storeMember 17 = .ok (.aload_n 0, 1) := by decide +kernel
theorem dX11_storeMember_18 : decode cX11_storeMember 18 = .ok (.iload_n 1, 1) := by decide +kernel
theorem dX11_storeMember_19 : decode cX11_storeMember 19 = .ok (.invokevirtual 200, 3) := by decide +kernel
theorem dX11_storeMember_22 : decode cX11_storeMember 22 = .ok (.iconst 1, 1) := by decide +kernel
theorem dX11_storeMember_23 : decode cX11_storeMember 23 = .ok (.invokevirtual 259, 3) := by decide +kernel
theorem dX11_storeMember_26 : decode cX11_storeMember 26 = .ok (.iload_n 2, 1) := by decide +kernel
theorem dX11_storeMember_27 : decode cX11_storeMember 27 = .ok (.ifCond .lt 14, 3) := by decide +kernel
theorem dX11_storeMember_30 : decode cX11_storeMember 30 = .ok (.iload_n 2, 1) := by decide +kernel
theorem dX11_storeMember_31 : decode cX11_storeMember 31 = .ok (.aload_n 0, 1) := by decide +kernel
theorem dX11_storeMember_32 : decode cX11_storeMember 32 = .ok (.getfield 80, 3) := by decide +kernel
theorem dX11_storeMember_35 : decode cX11_storeMember 35 = .ok (.invokevirtual 263, 3) := by decide +kernel
theorem dX11_storeMember_38 : decode cX11_storeMember 38 = .ok (.if_icmp .lt 6, 3) := by decide +kernel
theorem dX11_storeMember_41 : decode cX11_storeMember 41 = .ok (.bipush (-5), 2) := by decide +kernel
theorem dX11_storeMember_43 : decode cX11_storeMember 43 = .ok (.ireturn, 1) := by decide +kernel
theorem dX11_storeMember_44 : decode cX11_storeMember 44 = .ok (.aload_n 0, 1) := by decide +kernel
theorem dX11_storeMember_45 : decode cX11_storeMember 45 = .ok (.getfield 80, 3) := by decide +kernel
theorem dX11_storeMember_48 : decode cX11_storeMember 48 = .ok (.invokevirtual 267, 3) := by decide +kernel
theorem dX11_storeMember_51 : decode cX11_storeMember 51 = .ok (.aload_n 0, 1) := by decide +kernel
theorem dX11_storeMember_52 : decode cX11_storeMember 52 = .ok (.aload_n 0, 1) := by decide +kernel
theorem dX11_storeMember_53 : decode cX11_storeMember 53 = .ok (.getfield 80, 3) := by decide +kernel
theorem dX11_storeMember_56 : decode cX11_storeMember 56 = .ok (.iload_n 2, 1) := by decide +kernel
theorem dX11_storeMember_57 : decode cX11_storeMember 57 = .ok (.invokevirtual 273, 3) := by decide +kernel
theorem dX11_storeMember_60 : decode cX11_storeMember 60 = .ok (.invokevirtual 187, 3) := by decide +kernel
theorem dX11_storeMember_63 : decode cX11_storeMember 63 = .ok (.ireturn, 1) := by decide +kernel
def wo_X11_storeMember : List Cond := [.fieldLink RX11 27 "DynamicLogicProver" "formulas" "LDynamicLogicProver$Shelf;", .methodLink RX11 196 yX9_has, .instanceMethod yX9_has, .selects RX9 yX9_has yX9_has, .initialized RX9]
def wd_X11_storeMember : List Cond := .code yX11_storeMember cX11_storeMember 3 (some .int) :: (wo_X11_storeMember ++ (wd_X9_has0 ++ (wsX110 ++ ([] : List Cond))))
theorem mo_X11_storeMember {w : Cond} (i : Nat) (h : wo_X11_storeMember[i]? = some w) : w ∈ wd_X11_storeMember := List.mem_cons_of_mem _ (List.mem_append_left _ (List.mem_of_getElem? h))
theorem mb_X11_storeMember_0 : ∀ w ∈ wd_X9_has0, w ∈ wd_X11_storeMember := fun w h => List.mem_cons_of_mem _ (List.mem_append_right _ (List.mem_append_left _ h))
theorem mb_X11_storeMember_1 : ∀ w ∈ wsX110, w ∈ wd_X11_storeMember := fun w h => List.mem_cons_of_mem _ (List.mem_append_right _ (List.mem_append_right _ (List.mem_append_left _ h)))
theorem hd_X11_storeMember : yX11_storeMember.cls ≠ "java/lang/invoke/MethodHandle" ∧ yX11_storeMember.cls ≠ "java/lang/invoke/VarHandle" ∧ (parseMethodDescriptor yX11_storeMember.desc).map (fun d => d.parameters.length) = some 2 := by decide +kernel
set_option maxRecDepth 20000 in
theorem gw_X11_storeMember : wd_X11_storeMember.all goodWord = true := by decide +kernel
abbrev qc_X11_storeMember (D : va_G) (x : Nat) (mo : Nat) (sm : Nat) (sc : Nat) (fo : Nat) (sf : Nat) (bu : Nat) (po : Nat) (te : Nat) (pa : Nat) (rw : Nat) (tr : Nat) (cl : Nat) (pt : Nat) (ru : Nat) (de : Nat) (fa : Nat) (fb : Nat) (fd : Nat) (g1 : Int32) (g2 : Int32) (A : Nat → Prop) : Array Value → State → Outcome → State → Prop := va_Qi (fun (r : Int32) (uZ : Unit) => r = (-1)) (fun uZ tZ => kc_pos D A [] [] tZ) A
set_option maxHeartbeats 4000000 in
set_option maxRecDepth 100000 in
theorem ct_X11_storeMember (l : Launch) (D : va_G) (x : Nat) (mo : Nat) (sm : Nat) (sc : Nat) (fo : Nat) (sf : Nat) (bu : Nat) (po : Nat) (te : Nat) (pa : Nat) (rw : Nat) (tr : Nat) (cl : Nat) (pt : Nat) (ru : Nat) (de : Nat) (fa : Nat) (fb : Nat) (fd : Nat) (g1 : Int32) (g2 : Int32) (sz : Nat)  : Met l yX11_storeMember wd_X11_storeMember ({ frames := 1, cells := 0, slots := 0, locals := 21 }) (va_Pc [.ref x, .int g1, .int g2] (kc_pre D [] [(x, .inr (11, [.ref mo, .ref sm, .ref sc, .ref fo, .ref sf, .ref bu, .ref po, .ref te, .ref pa, .ref rw, .ref tr, .ref cl, .ref pt, .ref ru, .ref de, .int 0, .int 0])), (fo, .inr (9, [.ref fa, .ref fb, .ref fd, .int 0]))] sz)) (qc_X11_storeMember D x mo sm sc fo sf bu po te pa rw tr cl pt ru de fa fb fd g1 g2 (va_A [(x, .inr (11, [.ref mo, .ref sm, .ref sc, .ref fo, .ref sf, .ref bu, .ref po, .ref te, .ref pa, .ref rw, .ref tr, .ref cl, .ref pt, .ref ru, .ref de, .int 0, .int 0])), (fo, .inr (9, [.ref fa, .ref fb, .ref fd, .int 0]))] sz)) 0 0 (va_A [(x, .inr (11, [.ref mo, .ref sm, .ref sc, .ref fo, .ref sf, .ref bu, .ref po, .ref te, .ref pa, .ref rw, .ref tr, .ref cl, .ref pt, .ref ru, .ref de, .int 0, .int 0])), (fo, .inr (9, [.ref fa, .ref fb, .ref fd, .int 0]))] sz) := by
  refine Met.ofW (cc := cX11_storeMember) (maxL := 3) (ret := (some .int)) (by decide) rfl ?_
  intro p e s m args below meth c s₁ B hml hv
  obtain ⟨rfl, hsz, hP, hK, hN, hD0⟩ := hv
  have hx := B.exec
  have hb := B.bytes
  have hr := B.returns
  have hts := atoms_spec (ws := wd_X11_storeMember) B.pre
  have hown : s.vm.findClass RX11 = some m.cls := findClass_of_methodNamed B.named
  have hlocks := B.notSynchronized
  subst hsz
  have hD := hD0.self (sz := s.heap.size)
  generalize hAe : va_A [(x, .inr (11, [.ref mo, .ref sm, .ref sc, .ref fo, .ref sf, .ref bu, .ref po, .ref te, .ref pa, .ref rw, .ref tr, .ref cl, .ref pt, .ref ru, .ref de, .int 0, .int 0])), (fo, .inr (9, [.ref fa, .ref fb, .ref fd, .int 0]))] s.heap.size = A at hD ⊢
  have hA : ∀ q : Nat, s.heap.size ≤ q → A q := fun q h => by rw [← hAe]; exact Or.inr h
  have hS : va_S A s.heap s.heap [] := va_S.rf
  have hiX11 : ∀ w ∈ wsX110, w ∈ wd_X11_storeMember := mb_X11_storeMember_1
  have hl := lv_entry ([.ref x, .int g1, .int g2]) (n := 3) (Nat.le_of_ble_eq_true rfl)
  rw [lg_entry_eq]
  generalize (lg_sl ([.ref x, .int g1, .int g2]) ++ List.replicate (3 - (lg_sl ([.ref x, .int g1, .int g2])).length) Slot.unset).toArray = ls at hl ⊢
  have hl : lv_has ls 3 [(0, .ref x), (1, .int g1), (2, .int g2)] := hl
  refine lv_aload_n hx hb dX11_storeMember_0 rfl (lv_at hl 0 rfl) ?_
  refine va_get (D := D) (ci := 11) (v := .ref fo) (C := RX11) (T := TX11) (N := 17) hx hb hts hiX11 hown hK hP 0 rfl rfl 3 (by decide) (hts (.fieldLink RX11 27 "DynamicLogicProver" "formulas" "LDynamicLogicProver$Shelf;") (mo_X11_storeMember 0 rfl)) (fun _ h9 => h9) rfl dX11_storeMember_1 ?_
  refine lv_iload_n hx hb dX11_storeMember_4 rfl (lv_at hl 1 rfl) ?_
  refine kc_Vi (As := [.int g1]) (rest := []) (wr := [(x, .inr (11, [.ref mo, .ref sm, .ref sc, .ref fo, .ref sf, .ref bu, .ref po, .ref te, .ref pa, .ref rw, .ref tr, .ref cl, .ref pt, .ref ru, .ref de, .int 0, .int 0]))]) ⟨hx, hb, hml, hown, hts⟩ (ct_X9_has0 l D fo fa fb fd g1 _ ) (cwV 1 hts (kg_V (mo_X11_storeMember 1 rfl) (mo_X11_storeMember 2 rfl) (mo_X11_storeMember 3 rfl) (mo_X11_storeMember 4 rfl) (goodIn_sub mb_X11_storeMember_0 gw_X9_has0)) rfl rfl rfl ⟨rfl, hd_X9_has⟩ ⟨Nat.le_of_ble_eq_true rfl, Nat.le_of_ble_eq_true rfl⟩) (RX9, TX9, 4) 9 1 rfl rfl rfl hK hN hP hD hS hA [1] [0] [] rfl rfl (by decide) (by decide) (by decide) rfl rfl hl.1 rfl (Nat.le_of_ble_eq_true rfl) dX11_storeMember_5 ⟨Nat.le_of_ble_eq_true rfl, Nat.le_of_ble_eq_true rfl⟩ (fun r_1 u_2 H locs w_3 hP hD hK1 hS => ?_)
  have hP : va_P D vwCl [(x, .inr (11, [.ref mo, .ref sm, .ref sc, .ref fo, .ref sf, .ref bu, .ref po, .ref te, .ref pa, .ref rw, .ref tr, .ref cl, .ref pt, .ref ru, .ref de, .int 0, .int 0])), (fo, .inr (9, [.ref fa, .ref fb, .ref fd, .int 0]))] H := hP
  have hD : va_D A [(x, .inr (11, [.ref mo, .ref sm, .ref sc, .ref fo, .ref sf, .ref bu, .ref po, .ref te, .ref pa, .ref rw, .ref tr, .ref cl, .ref pt, .ref ru, .ref de, .int 0, .int 0])), (fo, .inr (9, [.ref fa, .ref fb, .ref fd, .int 0]))] := hD
  have w_3 : r_1 = 0 := w_3
  subst w_3
  refine lv_if_ne (tgt := 13) hx hb dX11_storeMember_8 (by decide) (fun c_4 => ?_) (fun c_4 => ?_)
  · exact absurd c_4 (by decide)
  · refine lv_iconst (v := (-1)) hx hb dX11_storeMember_11 (by decide) ?_
    have hP9 := hP.sub (ws' := []) [] rfl
    have hD9 := hD.sub (ws' := []) [] (by decide) rfl
    have hK9 := hK.sub (tys' := []) [] rfl
    exact W.iret (v := (-1)) hx hb hr (fun tZ htZ hW => ⟨⟨(-1), (), rfl, rfl, by rw [htZ]; exact hP9, va_K.moved hW.alike hK9, hD9⟩, hS.F htZ⟩) hS.2.2 dX11_storeMember_12
theorem dX11_trueMembers_0 : decode cX11_trueMembers 0 = .ok (.aload_n 0, 1) := by decide +kernel
theorem dX11_trueMembers_1 : decode cX11_trueMembers 1 = .ok (.getfield 27, 3) := by decide +kernel
theorem dX11_trueMembers_4 : decode cX11_trueMembers 4 = .ok (.iload_n 1, 1) := by decide +kernel
theorem dX11_trueMembers_5 : decode cX11_trueMembers 5 = .ok (.invokevirtual 196, 3) := by decide +kernel
theorem dX11_trueMembers_8 : decode cX11_trueMembers 8 = .ok (.ifCond .eq 14, 3) := by decide +kernel
theorem dX11_trueMembers_11 : decode cX11_trueMembers 11 = .ok (.aload_n 0, 1) := by decide +kernel
theorem dX11_trueMembers_12 : decode cX11_trueMembers 12 = .ok (.getfield 12, 3) := by decide +kernel
theorem dX11_trueMembers_15 : decode cX11_trueMembers 15 = .ok (.iload_n 2, 1) := by decide +kernel
theorem dX11_trueMembers_16 : decode cX11_trueMembers 16 = .ok (.invokevirtual 125, 3) := by decide +kernel
theorem dX11_trueMembers_19 : decode cX11_trueMembers 19 = .ok (.ifCond .ne 5, 3) := by decide +kernel
theorem dX11_trueMembers_22 : decode cX11_trueMembers 22 = .ok (.iconst (-1), 1) := by decide +kernel
theorem dX11_trueMembers_23 : decode cX11_trueMembers 23 = .ok (.ireturn, 1) := by decide +kernel
theorem dX11_trueMembers_24 : decode cX11_trueMembers 24 = .ok (.aload_n 0, 1) := by decide +kernel
theorem dX11_trueMembers_25 : decode cX11_trueMembers 25 = .ok (.getfield 80, 3) := by decide +kernel
theorem dX11_trueMembers_28 : decode cX11_trueMembers 28 = .ok (.aload_n 0, 1) := by decide +kernel
theorem dX11_trueMembers_29 : decode cX11_trueMembers 29 = .ok (.iload_n 1, 1) := by decide +kernel
theorem dX11_trueMembers_30 : decode cX11_trueMembers 30 = .ok (.invokevirtual 200, 3) := by decide +kernel
theorem dX11_trueMembers_33 : decode cX11_trueMembers 33 = .ok (.iconst 1, 1) := by decide +kernel
theorem dX11_trueMembers_34 : decode cX11_trueMembers 34 = .ok (.invokevirtual 259, 3) := by decide +kernel
theorem dX11_trueMembers_37 : decode cX11_trueMembers 37 = .ok (.aload_n 0, 1) := by decide +kernel
theorem dX11_trueMembers_38 : decode cX11_trueMembers 38 = .ok (.getfield 73, 3) := by decide +kernel
theorem dX11_trueMembers_41 : decode cX11_trueMembers 41 = .ok (.aload_n 0, 1) := by decide +kernel
theorem dX11_trueMembers_42 : decode cX11_trueMembers 42 = .ok (.getfield 12, 3) := by decide +kernel
theorem dX11_trueMembers_45 : decode cX11_trueMembers 45 = .ok (.invokevirtual 226, 3) := by decide +kernel
theorem dX11_trueMembers_48 : decode cX11_trueMembers 48 = .ok (.iconst 0, 1) := by decide +kernel
theorem dX11_trueMembers_49 : decode cX11_trueMembers 49 = .ok (.istore_n 3, 1) := by decide +kernel
theorem dX11_trueMembers_50 : decode cX11_trueMembers 50 = .ok (.iconst 0, 1) := by decide +kernel
theorem dX11_trueMembers_51 : decode cX11_trueMembers 51 = .ok (.istore 4, 2) := by decide +kernel
theorem dX11_trueMembers_53 : decode cX11_trueMembers 53 = .ok (.iload 4, 2) := by decide +kernel
theorem dX11_trueMembers_55 : decode cX11_trueMembers 55 = .ok (.aload_n 0, 1) := by decide +kernel
theorem dX11_trueMembers_56 : decode cX11_trueMembers 56 = .ok (.getfield 80, 3) := by decide +kernel
theorem dX11_trueMembers_59 : decode cX11_trueMembers 59 = .ok (.invokevirtual 263, 3) := by decide +kernel
theorem dX11_trueMembers_62 : decode cX11_trueMembers 62 = .ok (.if_icmp .ge 32, 3) := by decide +kernel
theorem dX11_trueMembers_65 : decode cX11_trueMembers 65 = .ok (.iload_n 3, 1) := by decide +kernel
theorem dX11_trueMembers_66 : decode cX11_trueMembers 66 = .ok (.aload_n 0, 1) := by decide +kernel
theorem dX11_trueMembers_67 : decode cX11_trueMembers 67 = .ok (.getfield 73, 3) := by decide +kernel
theorem dX11_trueMembers_70 : decode cX11_trueMembers 70 = .ok (.aload_n 0, 1) := by decide +kernel
theorem dX11_trueMembers_71 : decode cX11_trueMembers 71 = .ok (.getfield 80, 3) := by decide +kernel
theorem dX11_trueMembers_74 : decode cX11_trueMembers 74 = .ok (.iload 4, 2) := by decide +kernel
theorem dX11_trueMembers_76 : decode cX11_trueMembers 76 = .ok (.invokevirtual 273, 3) := by decide +kernel
theorem dX11_trueMembers_79 : decode cX11_trueMembers 79 = .ok (.invokevirtual 276, 3) := by decide +kernel
theorem dX11_trueMembers_82 : decode cX11_trueMembers 82 = .ok (.iload_n 2, 1) := by decide +kernel
theorem dX11_trueMembers_83 : decode cX11_trueMembers 83 = .ok (.ishr, 1) := by decide +kernel
theorem dX11_trueMembers_84 : decode cX11_trueMembers 84 = .ok (.iconst 1, 1) := by decide +kernel
theorem dX11_trueMembers_85 : decode cX11_trueMembers 85 = .ok (.iand, 1) := by decide +kernel
theorem dX11_trueMembers_86 : decode cX11_trueMembers 86 = .ok (.iadd, 1) := by decide +kernel
theorem dX11_trueMembers_87 : decode cX11_trueMembers 87 = .ok (.istore_n 3, 1) := by decide +kernel
theorem dX11_trueMembers_88 : decode cX11_trueMembers 88 = .ok (.iinc 4 1, 3) := by decide +kernel
theorem dX11_trueMembers_91 : decode cX11_trueMembers 91 = .ok (.goto (-38), 3) := by decide +kernel
theorem dX11_trueMembers_94 : decode cX11_trueMembers 94 = .ok (.iload_n 3, 1) := by decide +kernel
theorem dX11_trueMembers_95 : decode cX11_trueMembers 95 = .ok (.ireturn, 1) := by decide +kernel
def wo_X11_trueMembers : List Cond := [.fieldLink RX11 27 "DynamicLogicProver" "formulas" "LDynamicLogicProver$Shelf;", .methodLink RX11 196 yX9_has, .instanceMethod yX9_has, .selects RX9 yX9_has yX9_has, .initialized RX9]
def wd_X11_trueMembers : List Cond := .code yX11_trueMembers cX11_trueMembers 5 (some .int) :: (wo_X11_trueMembers ++ (wd_X9_has0 ++ (wsX110 ++ ([] : List Cond))))
theorem mo_X11_trueMembers {w : Cond} (i : Nat) (h : wo_X11_trueMembers[i]? = some w) : w ∈ wd_X11_trueMembers := List.mem_cons_of_mem _ (List.mem_append_left _ (List.mem_of_getElem? h))
theorem mb_X11_trueMembers_0 : ∀ w ∈ wd_X9_has0, w ∈ wd_X11_trueMembers := fun w h => List.mem_cons_of_mem _ (List.mem_append_right _ (List.mem_append_left _ h))
theorem mb_X11_trueMembers_1 : ∀ w ∈ wsX110, w ∈ wd_X11_trueMembers := fun w h => List.mem_cons_of_mem _ (List.mem_append_right _ (List.mem_append_right _ (List.mem_append_left _ h)))
theorem hd_X11_trueMembers : yX11_trueMembers.cls ≠ "java/lang/invoke/MethodHandle" ∧ yX11_trueMembers.cls ≠ "java/lang/invoke/VarHandle" ∧ (parseMethodDescriptor yX11_trueMembers.desc).map (fun d => d.parameters.length) = some 2 := by decide +kernel
set_option maxRecDepth 20000 in
theorem gw_X11_trueMembers : wd_X11_trueMembers.all goodWord = true := by decide +kernel
abbrev qc_X11_trueMembers (D : va_G) (x : Nat) (mo : Nat) (sm : Nat) (sc : Nat) (fo : Nat) (sf : Nat) (bu : Nat) (po : Nat) (te : Nat) (pa : Nat) (rw : Nat) (tr : Nat) (cl : Nat) (pt : Nat) (ru : Nat) (de : Nat) (fa : Nat) (fb : Nat) (fd : Nat) (g1 : Int32) (g2 : Int32) (A : Nat → Prop) : Array Value → State → Outcome → State → Prop := va_Qi (fun (r : Int32) (uZ : Unit) => r = (-1)) (fun uZ tZ => kc_pos D A [] [] tZ) A
set_option maxHeartbeats 4000000 in
set_option maxRecDepth 100000 in
theorem ct_X11_trueMembers (l : Launch) (D : va_G) (x : Nat) (mo : Nat) (sm : Nat) (sc : Nat) (fo : Nat) (sf : Nat) (bu : Nat) (po : Nat) (te : Nat) (pa : Nat) (rw : Nat) (tr : Nat) (cl : Nat) (pt : Nat) (ru : Nat) (de : Nat) (fa : Nat) (fb : Nat) (fd : Nat) (g1 : Int32) (g2 : Int32) (sz : Nat)  : Met l yX11_trueMembers wd_X11_trueMembers ({ frames := 1, cells := 0, slots := 0, locals := 21 }) (va_Pc [.ref x, .int g1, .int g2] (kc_pre D [] [(x, .inr (11, [.ref mo, .ref sm, .ref sc, .ref fo, .ref sf, .ref bu, .ref po, .ref te, .ref pa, .ref rw, .ref tr, .ref cl, .ref pt, .ref ru, .ref de, .int 0, .int 0])), (fo, .inr (9, [.ref fa, .ref fb, .ref fd, .int 0]))] sz)) (qc_X11_trueMembers D x mo sm sc fo sf bu po te pa rw tr cl pt ru de fa fb fd g1 g2 (va_A [(x, .inr (11, [.ref mo, .ref sm, .ref sc, .ref fo, .ref sf, .ref bu, .ref po, .ref te, .ref pa, .ref rw, .ref tr, .ref cl, .ref pt, .ref ru, .ref de, .int 0, .int 0])), (fo, .inr (9, [.ref fa, .ref fb, .ref fd, .int 0]))] sz)) 0 0 (va_A [(x, .inr (11, [.ref mo, .ref sm, .ref sc, .ref fo, .ref sf, .ref bu, .ref po, .ref te, .ref pa, .ref rw, .ref tr, .ref cl, .ref pt, .ref ru, .ref de, .int 0, .int 0])), (fo, .inr (9, [.ref fa, .ref fb, .ref fd, .int 0]))] sz) := by
  refine Met.ofW (cc := cX11_trueMembers) (maxL := 5) (ret := (some .int)) (by decide) rfl ?_
  intro p e s m args below meth c s₁ B hml hv
  obtain ⟨rfl, hsz, hP, hK, hN, hD0⟩ := hv
  have hx := B.exec
  have hb := B.bytes
  have hr := B.returns
  have hts := atoms_spec (ws := wd_X11_trueMembers) B.pre
  have hown : s.vm.findClass RX11 = some m.cls := findClass_of_methodNamed B.named
  have hlocks := B.notSynchronized
  subst hsz
  have hD := hD0.self (sz := s.heap.size)
  generalize hAe : va_A [(x, .inr (11, [.ref mo, .ref sm, .ref sc, .ref fo, .ref sf, .ref bu, .ref po, .ref te, .ref pa, .ref rw, .ref tr, .ref cl, .ref pt, .ref ru, .ref de, .int 0, .int 0])), (fo, .inr (9, [.ref fa, .ref fb, .ref fd, .int 0]))] s.heap.size = A at hD ⊢
  have hA : ∀ q : Nat, s.heap.size ≤ q → A q := fun q h => by rw [← hAe]; exact Or.inr h
  have hS : va_S A s.heap s.heap [] := va_S.rf
  have hiX11 : ∀ w ∈ wsX110, w ∈ wd_X11_trueMembers := mb_X11_trueMembers_1
  have hl := lv_entry ([.ref x, .int g1, .int g2]) (n := 5) (Nat.le_of_ble_eq_true rfl)
  rw [lg_entry_eq]
  generalize (lg_sl ([.ref x, .int g1, .int g2]) ++ List.replicate (5 - (lg_sl ([.ref x, .int g1, .int g2])).length) Slot.unset).toArray = ls at hl ⊢
  have hl : lv_has ls 5 [(0, .ref x), (1, .int g1), (2, .int g2)] := hl
  refine lv_aload_n hx hb dX11_trueMembers_0 rfl (lv_at hl 0 rfl) ?_
  refine va_get (D := D) (ci := 11) (v := .ref fo) (C := RX11) (T := TX11) (N := 17) hx hb hts hiX11 hown hK hP 0 rfl rfl 3 (by decide) (hts (.fieldLink RX11 27 "DynamicLogicProver" "formulas" "LDynamicLogicProver$Shelf;") (mo_X11_trueMembers 0 rfl)) (fun _ h9 => h9) rfl dX11_trueMembers_1 ?_
  refine lv_iload_n hx hb dX11_trueMembers_4 rfl (lv_at hl 1 rfl) ?_
  refine kc_Vi (As := [.int g1]) (rest := []) (wr := [(x, .inr (11, [.ref mo, .ref sm, .ref sc, .ref fo, .ref sf, .ref bu, .ref po, .ref te, .ref pa, .ref rw, .ref tr, .ref cl, .ref pt, .ref ru, .ref de, .int 0, .int 0]))]) ⟨hx, hb, hml, hown, hts⟩ (ct_X9_has0 l D fo fa fb fd g1 _ ) (cwV 1 hts (kg_V (mo_X11_trueMembers 1 rfl) (mo_X11_trueMembers 2 rfl) (mo_X11_trueMembers 3 rfl) (mo_X11_trueMembers 4 rfl) (goodIn_sub mb_X11_trueMembers_0 gw_X9_has0)) rfl rfl rfl ⟨rfl, hd_X9_has⟩ ⟨Nat.le_of_ble_eq_true rfl, Nat.le_of_ble_eq_true rfl⟩) (RX9, TX9, 4) 9 1 rfl rfl rfl hK hN hP hD hS hA [1] [0] [] rfl rfl (by decide) (by decide) (by decide) rfl rfl hl.1 rfl (Nat.le_of_ble_eq_true rfl) dX11_trueMembers_5 ⟨Nat.le_of_ble_eq_true rfl, Nat.le_of_ble_eq_true rfl⟩ (fun r_1 u_2 H locs w_3 hP hD hK1 hS => ?_)
  have hP : va_P D vwCl [(x, .inr (11, [.ref mo, .ref sm, .ref sc, .ref fo, .ref sf, .ref bu, .ref po, .ref te, .ref pa, .ref rw, .ref tr, .ref cl, .ref pt, .ref ru, .ref de, .int 0, .int 0])), (fo, .inr (9, [.ref fa, .ref fb, .ref fd, .int 0]))] H := hP
  have hD : va_D A [(x, .inr (11, [.ref mo, .ref sm, .ref sc, .ref fo, .ref sf, .ref bu, .ref po, .ref te, .ref pa, .ref rw, .ref tr, .ref cl, .ref pt, .ref ru, .ref de, .int 0, .int 0])), (fo, .inr (9, [.ref fa, .ref fb, .ref fd, .int 0]))] := hD
  have w_3 : r_1 = 0 := w_3
  subst w_3
  refine lv_if_eq (tgt := 22) hx hb dX11_trueMembers_8 (by decide) (fun c_4 => ?_) (fun c_4 => ?_)
  · refine lv_iconst (v := (-1)) hx hb dX11_trueMembers_22 (by decide) ?_
    have hP9 := hP.sub (ws' := []) [] rfl
    have hD9 := hD.sub (ws' := []) [] (by decide) rfl
    have hK9 := hK.sub (tys' := []) [] rfl
    exact W.iret (v := (-1)) hx hb hr (fun tZ htZ hW => ⟨⟨(-1), (), rfl, rfl, by rw [htZ]; exact hP9, va_K.moved hW.alike hK9, hD9⟩, hS.F htZ⟩) hS.2.2 dX11_trueMembers_23
  · exact absurd c_4 (by decide)
theorem dX11_filterClasses_0 : decode cX11_filterClasses 0 = .ok (.aload_n 0, 1) := by decide +kernel
theorem dX11_filterClasses_1 : decode cX11_filterClasses 1 = .ok (.getfield 27, 3) := by decide +kernel
theorem dX11_filterClasses_4 : decode cX11_filterClasses 4 = .ok (.iload_n 1, 1) := by decide +kernel
theorem dX11_filterClasses_5 : decode cX11_filterClasses 5 = .ok (.invokevirtual 196, 3) := by decide +kernel
theorem dX11_filterClasses_8 : decode cX11_filterClasses 8 = .ok (.ifCond .ne 5, 3) := by decide +kernel
theorem dX11_filterClasses_11 : decode cX11_filterClasses 11 = .ok (.iconst (-1), 1) := by decide +kernel
theorem dX11_filterClasses_12 : decode cX11_filterClasses 12 = .ok (.ireturn, 1) := by decide +kernel
theorem dX11_filterClasses_13 : decode cX11_filterClasses 13 = .ok (.aload_n 0, 1) := by decide +kernel
theorem dX11_filterClasses_14 : decode cX11_filterClasses 14 = .ok (.iload_n 1, 1) := by decide +kernel
theorem dX11_filterClasses_15 : decode cX11_filterClasses 15 = .ok (.invokevirtual 279, 3) := by decide +kernel
theorem dX11_filterClasses_18 : decode cX11_filterClasses 18 = .ok (.aload_n 0, 1) := by decide +kernel
theorem dX11_filterClasses_19 : decode cX11_filterClasses 19 = .ok (.getfield 87, 3) := by decide +kernel
theorem dX11_filterClasses_22 : decode cX11_filterClasses 22 = .ok (.invokevirtual 163, 3) := by decide +kernel
theorem dX11_filterClasses_25 : decode cX11_filterClasses 25 = .ok (.ireturn, 1) := by decide +kernel
def wo_X11_filterClasses : List Cond := [.fieldLink RX11 27 "DynamicLogicProver" "formulas" "LDynamicLogicProver$Shelf;", .methodLink RX11 196 yX9_has, .instanceMethod yX9_has, .selects RX9 yX9_has yX9_has, .initialized RX9]
def wd_X11_filterClasses : List Cond := .code yX11_filterClasses cX11_filterClasses 2 (some .int) :: (wo_X11_filterClasses ++ (wd_X9_has0 ++ (wsX110 ++ ([] : List Cond))))
theorem mo_X11_filterClasses {w : Cond} (i : Nat) (h : wo_X11_filterClasses[i]? = some w) : w ∈ wd_X11_filterClasses := List.mem_cons_of_mem _ (List.mem_append_left _ (List.mem_of_getElem? h))
theorem mb_X11_filterClasses_0 : ∀ w ∈ wd_X9_has0, w ∈ wd_X11_filterClasses := fun w h => List.mem_cons_of_mem _ (List.mem_append_right _ (List.mem_append_left _ h))
theorem mb_X11_filterClasses_1 : ∀ w ∈ wsX110, w ∈ wd_X11_filterClasses := fun w h => List.mem_cons_of_mem _ (List.mem_append_right _ (List.mem_append_right _ (List.mem_append_left _ h)))
theorem hd_X11_filterClasses : yX11_filterClasses.cls ≠ "java/lang/invoke/MethodHandle" ∧ yX11_filterClasses.cls ≠ "java/lang/invoke/VarHandle" ∧ (parseMethodDescriptor yX11_filterClasses.desc).map (fun d => d.parameters.length) = some 1 := by decide +kernel
set_option maxRecDepth 20000 in
theorem gw_X11_filterClasses : wd_X11_filterClasses.all goodWord = true := by decide +kernel
abbrev qc_X11_filterClasses (D : va_G) (x : Nat) (mo : Nat) (sm : Nat) (sc : Nat) (fo : Nat) (sf : Nat) (bu : Nat) (po : Nat) (te : Nat) (pa : Nat) (rw : Nat) (tr : Nat) (cl : Nat) (pt : Nat) (ru : Nat) (de : Nat) (fa : Nat) (fb : Nat) (fd : Nat) (g1 : Int32) (A : Nat → Prop) : Array Value → State → Outcome → State → Prop := va_Qi (fun (r : Int32) (uZ : Unit) => r = (-1)) (fun uZ tZ => kc_pos D A [] [] tZ) A
set_option maxHeartbeats 4000000 in
set_option maxRecDepth 100000 in
theorem ct_X11_filterClasses (l : Launch) (D : va_G) (x : Nat) (mo : Nat) (sm : Nat) (sc : Nat) (fo : Nat) (sf : Nat) (bu : Nat) (po : Nat) (te : Nat) (pa : Nat) (rw : Nat) (tr : Nat) (cl : Nat) (pt : Nat) (ru : Nat) (de : Nat) (fa : Nat) (fb : Nat) (fd : Nat) (g1 : Int32) (sz : Nat)  : Met l yX11_filterClasses wd_X11_filterClasses ({ frames := 1, cells := 0, slots := 0, locals := 21 }) (va_Pc [.ref x, .int g1] (kc_pre D [] [(x, .inr (11, [.ref mo, .ref sm, .ref sc, .ref fo, .ref sf, .ref bu, .ref po, .ref te, .ref pa, .ref rw, .ref tr, .ref cl, .ref pt, .ref ru, .ref de, .int 0, .int 0])), (fo, .inr (9, [.ref fa, .ref fb, .ref fd, .int 0]))] sz)) (qc_X11_filterClasses D x mo sm sc fo sf bu po te pa rw tr cl pt ru de fa fb fd g1 (va_A [(x, .inr (11, [.ref mo, .ref sm, .ref sc, .ref fo, .ref sf, .ref bu, .ref po, .ref te, .ref pa, .ref rw, .ref tr, .ref cl, .ref pt, .ref ru, .ref de, .int 0, .int 0])), (fo, .inr (9, [.ref fa, .ref fb, .ref fd, .int 0]))] sz)) 0 0 (va_A [(x, .inr (11, [.ref mo, .ref sm, .ref sc, .ref fo, .ref sf, .ref bu, .ref po, .ref te, .ref pa, .ref rw, .ref tr, .ref cl, .ref pt, .ref ru, .ref de, .int 0, .int 0])), (fo, .inr (9, [.ref fa, .ref fb, .ref fd, .int 0]))] sz) := by
  refine Met.ofW (cc := cX11_filterClasses) (maxL := 2) (ret := (some .int)) (by decide) rfl ?_
  intro p e s m args below meth c s₁ B hml hv
  obtain ⟨rfl, hsz, hP, hK, hN, hD0⟩ := hv
  have hx := B.exec
  have hb := B.bytes
  have hr := B.returns
  have hts := atoms_spec (ws := wd_X11_filterClasses) B.pre
  have hown : s.vm.findClass RX11 = some m.cls := findClass_of_methodNamed B.named
  have hlocks := B.notSynchronized
  subst hsz
  have hD := hD0.self (sz := s.heap.size)
  generalize hAe : va_A [(x, .inr (11, [.ref mo, .ref sm, .ref sc, .ref fo, .ref sf, .ref bu, .ref po, .ref te, .ref pa, .ref rw, .ref tr, .ref cl, .ref pt, .ref ru, .ref de, .int 0, .int 0])), (fo, .inr (9, [.ref fa, .ref fb, .ref fd, .int 0]))] s.heap.size = A at hD ⊢
  have hA : ∀ q : Nat, s.heap.size ≤ q → A q := fun q h => by rw [← hAe]; exact Or.inr h
  have hS : va_S A s.heap s.heap [] := va_S.rf
  have hiX11 : ∀ w ∈ wsX110, w ∈ wd_X11_filterClasses := mb_X11_filterClasses_1
  have hl := lv_entry ([.ref x, .int g1]) (n := 2) (Nat.le_of_ble_eq_true rfl)
  rw [lg_entry_eq]
  generalize (lg_sl ([.ref x, .int g1]) ++ List.replicate (2 - (lg_sl ([.ref x, .int g1])).length) Slot.unset).toArray = ls at hl ⊢
  have hl : lv_has ls 2 [(0, .ref x), (1, .int g1)] := hl
  refine lv_aload_n hx hb dX11_filterClasses_0 rfl (lv_at hl 0 rfl) ?_
  refine va_get (D := D) (ci := 11) (v := .ref fo) (C := RX11) (T := TX11) (N := 17) hx hb hts hiX11 hown hK hP 0 rfl rfl 3 (by decide) (hts (.fieldLink RX11 27 "DynamicLogicProver" "formulas" "LDynamicLogicProver$Shelf;") (mo_X11_filterClasses 0 rfl)) (fun _ h9 => h9) rfl dX11_filterClasses_1 ?_
  refine lv_iload_n hx hb dX11_filterClasses_4 rfl (lv_at hl 1 rfl) ?_
  refine kc_Vi (As := [.int g1]) (rest := []) (wr := [(x, .inr (11, [.ref mo, .ref sm, .ref sc, .ref fo, .ref sf, .ref bu, .ref po, .ref te, .ref pa, .ref rw, .ref tr, .ref cl, .ref pt, .ref ru, .ref de, .int 0, .int 0]))]) ⟨hx, hb, hml, hown, hts⟩ (ct_X9_has0 l D fo fa fb fd g1 _ ) (cwV 1 hts (kg_V (mo_X11_filterClasses 1 rfl) (mo_X11_filterClasses 2 rfl) (mo_X11_filterClasses 3 rfl) (mo_X11_filterClasses 4 rfl) (goodIn_sub mb_X11_filterClasses_0 gw_X9_has0)) rfl rfl rfl ⟨rfl, hd_X9_has⟩ ⟨Nat.le_of_ble_eq_true rfl, Nat.le_of_ble_eq_true rfl⟩) (RX9, TX9, 4) 9 1 rfl rfl rfl hK hN hP hD hS hA [1] [0] [] rfl rfl (by decide) (by decide) (by decide) rfl rfl hl.1 rfl (Nat.le_of_ble_eq_true rfl) dX11_filterClasses_5 ⟨Nat.le_of_ble_eq_true rfl, Nat.le_of_ble_eq_true rfl⟩ (fun r_1 u_2 H locs w_3 hP hD hK1 hS => ?_)
  have hP : va_P D vwCl [(x, .inr (11, [.ref mo, .ref sm, .ref sc, .ref fo, .ref sf, .ref bu, .ref po, .ref te, .ref pa, .ref rw, .ref tr, .ref cl, .ref pt, .ref ru, .ref de, .int 0, .int 0])), (fo, .inr (9, [.ref fa, .ref fb, .ref fd, .int 0]))] H := hP
  have hD : va_D A [(x, .inr (11, [.ref mo, .ref sm, .ref sc, .ref fo, .ref sf, .ref bu, .ref po, .ref te, .ref pa, .ref rw, .ref tr, .ref cl, .ref pt, .ref ru, .ref de, .int 0, .int 0])), (fo, .inr (9, [.ref fa, .ref fb, .ref fd, .int 0]))] := hD
  have w_3 : r_1 = 0 := w_3
  subst w_3
  refine lv_if_ne (tgt := 13) hx hb dX11_filterClasses_8 (by decide) (fun c_4 => ?_) (fun c_4 => ?_)
  · exact absurd c_4 (by decide)
  · refine lv_iconst (v := (-1)) hx hb dX11_filterClasses_11 (by decide) ?_
    have hP9 := hP.sub (ws' := []) [] rfl
    have hD9 := hD.sub (ws' := []) [] (by decide) rfl
    have hK9 := hK.sub (tys' := []) [] rfl
    exact W.iret (v := (-1)) hx hb hr (fun tZ htZ hW => ⟨⟨(-1), (), rfl, rfl, by rw [htZ]; exact hP9, va_K.moved hW.alike hK9, hD9⟩, hS.F htZ⟩) hS.2.2 dX11_filterClasses_12
theorem dX11_filterClass_0 : decode cX11_filterClass 0 = .ok (.aload_n 0, 1) := by decide +kernel
theorem dX11_filterClass_1 : decode cX11_filterClass 1 = .ok (.getfield 27, 3) := by decide +kernel
theorem dX11_filterClass_4 : decode cX11_filterClass 4 = .ok (.iload_n 1, 1) := by decide +kernel
theorem dX11_filterClass_5 : decode cX11_filterClass 5 = .ok (.invokevirtual 196, 3) := by decide +kernel
theorem dX11_filterClass_8 : decode cX11_filterClass 8 = .ok (.ifCond .eq 14, 3) := by decide +kernel
theorem dX11_filterClass_11 : decode cX11_filterClass 11 = .ok (.aload_n 0, 1) := by decide +kernel
theorem dX11_filterClass_12 : decode cX11_filterClass 12 = .ok (.getfield 12, 3) := by decide +kernel
theorem dX11_filterClass_15 : decode cX11_filterClass 15 = .ok (.iload_n 2, 1) := by decide +kernel
theorem dX11_filterClass_16 : decode cX11_filterClass 16 = .ok (.invokevirtual 125, 3) := by decide +kernel
theorem dX11_filterClass_19 : decode cX11_filterClass 19 = .ok (.ifCond .ne 5, 3) := by decide +kernel
theorem dX11_filterClass_22 : decode cX11_filterClass 22 = .ok (.iconst (-1), 1) := by decide +kernel
theorem dX11_filterClass_23 : decode cX11_filterClass 23 = .ok (.ireturn, 1) := by decide +kernel
theorem dX11_filterClass_24 : decode cX11_filterClass 24 = .ok (.aload_n 0, 1) := by decide +kernel
theorem dX11_filterClass_25 : decode cX11_filterClass 25 = .ok (.iload_n 1, 1) := by decide +kernel
theorem dX11_filterClass_26 : decode cX11_filterClass 26 = .ok (.invokevirtual 279, 3) := by decide +kernel
theorem dX11_filterClass_29 : decode cX11_filterClass 29 = .ok (.aload_n 0, 1) := by decide +kernel
theorem dX11_filterClass_30 : decode cX11_filterClass 30 = .ok (.getfield 87, 3) := by decide +kernel
theorem dX11_filterClass_33 : decode cX11_filterClass 33 = .ok (.iload_n 2, 1) := by decide +kernel
theorem dX11_filterClass_34 : decode cX11_filterClass 34 = .ok (.invokevirtual 164, 3) := by decide +kernel
theorem dX11_filterClass_37 : decode cX11_filterClass 37 = .ok (.ireturn, 1) := by decide +kernel
def wo_X11_filterClass : List Cond := [.fieldLink RX11 27 "DynamicLogicProver" "formulas" "LDynamicLogicProver$Shelf;", .methodLink RX11 196 yX9_has, .instanceMethod yX9_has, .selects RX9 yX9_has yX9_has, .initialized RX9]
def wd_X11_filterClass : List Cond := .code yX11_filterClass cX11_filterClass 3 (some .int) :: (wo_X11_filterClass ++ (wd_X9_has0 ++ (wsX110 ++ ([] : List Cond))))
theorem mo_X11_filterClass {w : Cond} (i : Nat) (h : wo_X11_filterClass[i]? = some w) : w ∈ wd_X11_filterClass := List.mem_cons_of_mem _ (List.mem_append_left _ (List.mem_of_getElem? h))
theorem mb_X11_filterClass_0 : ∀ w ∈ wd_X9_has0, w ∈ wd_X11_filterClass := fun w h => List.mem_cons_of_mem _ (List.mem_append_right _ (List.mem_append_left _ h))
theorem mb_X11_filterClass_1 : ∀ w ∈ wsX110, w ∈ wd_X11_filterClass := fun w h => List.mem_cons_of_mem _ (List.mem_append_right _ (List.mem_append_right _ (List.mem_append_left _ h)))
theorem hd_X11_filterClass : yX11_filterClass.cls ≠ "java/lang/invoke/MethodHandle" ∧ yX11_filterClass.cls ≠ "java/lang/invoke/VarHandle" ∧ (parseMethodDescriptor yX11_filterClass.desc).map (fun d => d.parameters.length) = some 2 := by decide +kernel
set_option maxRecDepth 20000 in
theorem gw_X11_filterClass : wd_X11_filterClass.all goodWord = true := by decide +kernel
abbrev qc_X11_filterClass (D : va_G) (x : Nat) (mo : Nat) (sm : Nat) (sc : Nat) (fo : Nat) (sf : Nat) (bu : Nat) (po : Nat) (te : Nat) (pa : Nat) (rw : Nat) (tr : Nat) (cl : Nat) (pt : Nat) (ru : Nat) (de : Nat) (fa : Nat) (fb : Nat) (fd : Nat) (g1 : Int32) (g2 : Int32) (A : Nat → Prop) : Array Value → State → Outcome → State → Prop := va_Qi (fun (r : Int32) (uZ : Unit) => r = (-1)) (fun uZ tZ => kc_pos D A [] [] tZ) A
set_option maxHeartbeats 4000000 in
set_option maxRecDepth 100000 in
theorem ct_X11_filterClass (l : Launch) (D : va_G) (x : Nat) (mo : Nat) (sm : Nat) (sc : Nat) (fo : Nat) (sf : Nat) (bu : Nat) (po : Nat) (te : Nat) (pa : Nat) (rw : Nat) (tr : Nat) (cl : Nat) (pt : Nat) (ru : Nat) (de : Nat) (fa : Nat) (fb : Nat) (fd : Nat) (g1 : Int32) (g2 : Int32) (sz : Nat)  : Met l yX11_filterClass wd_X11_filterClass ({ frames := 1, cells := 0, slots := 0, locals := 21 }) (va_Pc [.ref x, .int g1, .int g2] (kc_pre D [] [(x, .inr (11, [.ref mo, .ref sm, .ref sc, .ref fo, .ref sf, .ref bu, .ref po, .ref te, .ref pa, .ref rw, .ref tr, .ref cl, .ref pt, .ref ru, .ref de, .int 0, .int 0])), (fo, .inr (9, [.ref fa, .ref fb, .ref fd, .int 0]))] sz)) (qc_X11_filterClass D x mo sm sc fo sf bu po te pa rw tr cl pt ru de fa fb fd g1 g2 (va_A [(x, .inr (11, [.ref mo, .ref sm, .ref sc, .ref fo, .ref sf, .ref bu, .ref po, .ref te, .ref pa, .ref rw, .ref tr, .ref cl, .ref pt, .ref ru, .ref de, .int 0, .int 0])), (fo, .inr (9, [.ref fa, .ref fb, .ref fd, .int 0]))] sz)) 0 0 (va_A [(x, .inr (11, [.ref mo, .ref sm, .ref sc, .ref fo, .ref sf, .ref bu, .ref po, .ref te, .ref pa, .ref rw, .ref tr, .ref cl, .ref pt, .ref ru, .ref de, .int 0, .int 0])), (fo, .inr (9, [.ref fa, .ref fb, .ref fd, .int 0]))] sz) := by
  refine Met.ofW (cc := cX11_filterClass) (maxL := 3) (ret := (some .int)) (by decide) rfl ?_
  intro p e s m args below meth c s₁ B hml hv
  obtain ⟨rfl, hsz, hP, hK, hN, hD0⟩ := hv
  have hx := B.exec
  have hb := B.bytes
  have hr := B.returns
  have hts := atoms_spec (ws := wd_X11_filterClass) B.pre
  have hown : s.vm.findClass RX11 = some m.cls := findClass_of_methodNamed B.named
  have hlocks := B.notSynchronized
  subst hsz
  have hD := hD0.self (sz := s.heap.size)
  generalize hAe : va_A [(x, .inr (11, [.ref mo, .ref sm, .ref sc, .ref fo, .ref sf, .ref bu, .ref po, .ref te, .ref pa, .ref rw, .ref tr, .ref cl, .ref pt, .ref ru, .ref de, .int 0, .int 0])), (fo, .inr (9, [.ref fa, .ref fb, .ref fd, .int 0]))] s.heap.size = A at hD ⊢
  have hA : ∀ q : Nat, s.heap.size ≤ q → A q := fun q h => by rw [← hAe]; exact Or.inr h
  have hS : va_S A s.heap s.heap [] := va_S.rf
  have hiX11 : ∀ w ∈ wsX110, w ∈ wd_X11_filterClass := mb_X11_filterClass_1
  have hl := lv_entry ([.ref x, .int g1, .int g2]) (n := 3) (Nat.le_of_ble_eq_true rfl)
  rw [lg_entry_eq]
  generalize (lg_sl ([.ref x, .int g1, .int g2]) ++ List.replicate (3 - (lg_sl ([.ref x, .int g1, .int g2])).length) Slot.unset).toArray = ls at hl ⊢
  have hl : lv_has ls 3 [(0, .ref x), (1, .int g1), (2, .int g2)] := hl
  refine lv_aload_n hx hb dX11_filterClass_0 rfl (lv_at hl 0 rfl) ?_
  refine va_get (D := D) (ci := 11) (v := .ref fo) (C := RX11) (T := TX11) (N := 17) hx hb hts hiX11 hown hK hP 0 rfl rfl 3 (by decide) (hts (.fieldLink RX11 27 "DynamicLogicProver" "formulas" "LDynamicLogicProver$Shelf;") (mo_X11_filterClass 0 rfl)) (fun _ h9 => h9) rfl dX11_filterClass_1 ?_
  refine lv_iload_n hx hb dX11_filterClass_4 rfl (lv_at hl 1 rfl) ?_
  refine kc_Vi (As := [.int g1]) (rest := []) (wr := [(x, .inr (11, [.ref mo, .ref sm, .ref sc, .ref fo, .ref sf, .ref bu, .ref po, .ref te, .ref pa, .ref rw, .ref tr, .ref cl, .ref pt, .ref ru, .ref de, .int 0, .int 0]))]) ⟨hx, hb, hml, hown, hts⟩ (ct_X9_has0 l D fo fa fb fd g1 _ ) (cwV 1 hts (kg_V (mo_X11_filterClass 1 rfl) (mo_X11_filterClass 2 rfl) (mo_X11_filterClass 3 rfl) (mo_X11_filterClass 4 rfl) (goodIn_sub mb_X11_filterClass_0 gw_X9_has0)) rfl rfl rfl ⟨rfl, hd_X9_has⟩ ⟨Nat.le_of_ble_eq_true rfl, Nat.le_of_ble_eq_true rfl⟩) (RX9, TX9, 4) 9 1 rfl rfl rfl hK hN hP hD hS hA [1] [0] [] rfl rfl (by decide) (by decide) (by decide) rfl rfl hl.1 rfl (Nat.le_of_ble_eq_true rfl) dX11_filterClass_5 ⟨Nat.le_of_ble_eq_true rfl, Nat.le_of_ble_eq_true rfl⟩ (fun r_1 u_2 H locs w_3 hP hD hK1 hS => ?_)
  have hP : va_P D vwCl [(x, .inr (11, [.ref mo, .ref sm, .ref sc, .ref fo, .ref sf, .ref bu, .ref po, .ref te, .ref pa, .ref rw, .ref tr, .ref cl, .ref pt, .ref ru, .ref de, .int 0, .int 0])), (fo, .inr (9, [.ref fa, .ref fb, .ref fd, .int 0]))] H := hP
  have hD : va_D A [(x, .inr (11, [.ref mo, .ref sm, .ref sc, .ref fo, .ref sf, .ref bu, .ref po, .ref te, .ref pa, .ref rw, .ref tr, .ref cl, .ref pt, .ref ru, .ref de, .int 0, .int 0])), (fo, .inr (9, [.ref fa, .ref fb, .ref fd, .int 0]))] := hD
  have w_3 : r_1 = 0 := w_3
  subst w_3
  refine lv_if_eq (tgt := 22) hx hb dX11_filterClass_8 (by decide) (fun c_4 => ?_) (fun c_4 => ?_)
  · refine lv_iconst (v := (-1)) hx hb dX11_filterClass_22 (by decide) ?_
    have hP9 := hP.sub (ws' := []) [] rfl
    have hD9 := hD.sub (ws' := []) [] (by decide) rfl
    have hK9 := hK.sub (tys' := []) [] rfl
    exact W.iret (v := (-1)) hx hb hr (fun tZ htZ hW => ⟨⟨(-1), (), rfl, rfl, by rw [htZ]; exact hP9, va_K.moved hW.alike hK9, hD9⟩, hS.F htZ⟩) hS.2.2 dX11_filterClass_23
  · exact absurd c_4 (by decide)
theorem dX11_filterSuccessors_0 : decode cX11_filterSuccessors 0 = .ok (.aload_n 0, 1) := by decide +kernel
theorem dX11_filterSuccessors_1 : decode cX11_filterSuccessors 1 = .ok (.getfield 27, 3) := by decide +kernel
theorem dX11_filterSuccessors_4 : decode cX11_filterSuccessors 4 = .ok (.iload_n 1, 1) := by decide +kernel
theorem dX11_filterSuccessors_5 : decode cX11_filterSuccessors 5 = .ok (.invokevirtual 196, 3) := by decide +kernel
theorem dX11_filterSuccessors_8 : decode cX11_filterSuccessors 8 = .ok (.ifCond .eq 10, 3) := by decide +kernel
theorem dX11_filterSuccessors_11 : decode cX11_filterSuccessors 11 = .ok (.iload_n 2, 1) := by decide +kernel
theorem dX11_filterSuccessors_12 : decode cX11_filterSuccessors 12 = .ok (.invokestatic 137, 3) := by decide +kernel
theorem dX11_filterSuccessors_15 : decode cX11_filterSuccessors 15 = .ok (.ifCond .ne 5, 3) := by decide +kernel
theorem dX11_filterSuccessors_18 : decode cX11_filterSuccessors 18 = .ok (.iconst (-1), 1) := by decide +kernel
theorem dX11_filterSuccessors_19 : decode cX11_filterSuccessors 19 = .ok (.ireturn, 1) := by decide +kernel
theorem dX11_filterSuccessors_20 : decode cX11_filterSuccessors 20 = .ok (.aload_n 0, 1) := by decide +kernel
theorem dX11_filterSuccessors_21 : decode cX11_filterSuccessors 21 = .ok (.iload_n 1, 1) := by decide +kernel
theorem dX11_filterSuccessors_22 : decode cX11_filterSuccessors 22 = .ok (.invokevirtual 279, 3) := by decide +kernel
theorem dX11_filterSuccessors_25 : decode cX11_filterSuccessors 25 = .ok (.aload_n 0, 1) := by decide +kernel
theorem dX11_filterSuccessors_26 : decode cX11_filterSuccessors 26 = .ok (.getfield 21, 3) := by decide +kernel
theorem dX11_filterSuccessors_29 : decode cX11_filterSuccessors 29 = .ok (.iload_n 3, 1) := by decide +kernel
theorem dX11_filterSuccessors_30 : decode cX11_filterSuccessors 30 = .ok (.invokevirtual 125, 3) := by decide +kernel
theorem dX11_filterSuccessors_33 : decode cX11_filterSuccessors 33 = .ok (.ifCond .eq 15, 3) := by decide +kernel
theorem dX11_filterSuccessors_36 : decode cX11_filterSuccessors 36 = .ok (.aload_n 0, 1) := by decide +kernel
theorem dX11_filterSuccessors_37 : decode cX11_filterSuccessors 37 = .ok (.getfield 21, 3) := by decide +kernel
theorem dX11_filterSuccessors_40 : decode cX11_filterSuccessors 40 = .ok (.iload_n 2, 1) := by decide +kernel
theorem dX11_filterSuccessors_41 : decode cX11_filterSuccessors 41 = .ok (.iload_n 3, 1) := by decide +kernel
theorem dX11_filterSuccessors_42 : decode cX11_filterSuccessors 42 = .ok (.invokevirtual 140, 3) := by decide +kernel
theorem dX11_filterSuccessors_45 : decode cX11_filterSuccessors 45 = .ok (.goto 4, 3) := by decide +kernel
theorem dX11_filterSuccessors_48 : decode cX11_filterSuccessors 48 = .ok (.iconst (-1), 1) := by decide +kernel
theorem dX11_filterSuccessors_49 : decode cX11_filterSuccessors 49 = .ok (.ireturn, 1) := by decide +kernel
def wo_X11_filterSuccessors : List Cond := [.fieldLink RX11 27 "DynamicLogicProver" "formulas" "LDynamicLogicProver$Shelf;", .methodLink RX11 196 yX9_has, .instanceMethod yX9_has, .selects RX9 yX9_has yX9_has, .initialized RX9]
def wd_X11_filterSuccessors : List Cond := .code yX11_filterSuccessors cX11_filterSuccessors 4 (some .int) :: (wo_X11_filterSuccessors ++ (wd_X9_has0 ++ (wsX110 ++ ([] : List Cond))))
theorem mo_X11_filterSuccessors {w : Cond} (i : Nat) (h : wo_X11_filterSuccessors[i]? = some w) : w ∈ wd_X11_filterSuccessors := List.mem_cons_of_mem _ (List.mem_append_left _ (List.mem_of_getElem? h))
theorem mb_X11_filterSuccessors_0 : ∀ w ∈ wd_X9_has0, w ∈ wd_X11_filterSuccessors := fun w h => List.mem_cons_of_mem _ (List.mem_append_right _ (List.mem_append_left _ h))
theorem mb_X11_filterSuccessors_1 : ∀ w ∈ wsX110, w ∈ wd_X11_filterSuccessors := fun w h => List.mem_cons_of_mem _ (List.mem_append_right _ (List.mem_append_right _ (List.mem_append_left _ h)))
theorem hd_X11_filterSuccessors : yX11_filterSuccessors.cls ≠ "java/lang/invoke/MethodHandle" ∧ yX11_filterSuccessors.cls ≠ "java/lang/invoke/VarHandle" ∧ (parseMethodDescriptor yX11_filterSuccessors.desc).map (fun d => d.parameters.length) = some 3 := by decide +kernel
set_option maxRecDepth 20000 in
theorem gw_X11_filterSuccessors : wd_X11_filterSuccessors.all goodWord = true := by decide +kernel
abbrev qc_X11_filterSuccessors (D : va_G) (x : Nat) (mo : Nat) (sm : Nat) (sc : Nat) (fo : Nat) (sf : Nat) (bu : Nat) (po : Nat) (te : Nat) (pa : Nat) (rw : Nat) (tr : Nat) (cl : Nat) (pt : Nat) (ru : Nat) (de : Nat) (fa : Nat) (fb : Nat) (fd : Nat) (g1 : Int32) (g2 : Int32) (g3 : Int32) (A : Nat → Prop) : Array Value → State → Outcome → State → Prop := va_Qi (fun (r : Int32) (uZ : Unit) => r = (-1)) (fun uZ tZ => kc_pos D A [] [] tZ) A
set_option maxHeartbeats 4000000 in
set_option maxRecDepth 100000 in
theorem ct_X11_filterSuccessors (l : Launch) (D : va_G) (x : Nat) (mo : Nat) (sm : Nat) (sc : Nat) (fo : Nat) (sf : Nat) (bu : Nat) (po : Nat) (te : Nat) (pa : Nat) (rw : Nat) (tr : Nat) (cl : Nat) (pt : Nat) (ru : Nat) (de : Nat) (fa : Nat) (fb : Nat) (fd : Nat) (g1 : Int32) (g2 : Int32) (g3 : Int32) (sz : Nat)  : Met l yX11_filterSuccessors wd_X11_filterSuccessors ({ frames := 1, cells := 0, slots := 0, locals := 21 }) (va_Pc [.ref x, .int g1, .int g2, .int g3] (kc_pre D [] [(x, .inr (11, [.ref mo, .ref sm, .ref sc, .ref fo, .ref sf, .ref bu, .ref po, .ref te, .ref pa, .ref rw, .ref tr, .ref cl, .ref pt, .ref ru, .ref de, .int 0, .int 0])), (fo, .inr (9, [.ref fa, .ref fb, .ref fd, .int 0]))] sz)) (qc_X11_filterSuccessors D x mo sm sc fo sf bu po te pa rw tr cl pt ru de fa fb fd g1 g2 g3 (va_A [(x, .inr (11, [.ref mo, .ref sm, .ref sc, .ref fo, .ref sf, .ref bu, .ref po, .ref te, .ref pa, .ref rw, .ref tr, .ref cl, .ref pt, .ref ru, .ref de, .int 0, .int 0])), (fo, .inr (9, [.ref fa, .ref fb, .ref fd, .int 0]))] sz)) 0 0 (va_A [(x, .inr (11, [.ref mo, .ref sm, .ref sc, .ref fo, .ref sf, .ref bu, .ref po, .ref te, .ref pa, .ref rw, .ref tr, .ref cl, .ref pt, .ref ru, .ref de, .int 0, .int 0])), (fo, .inr (9, [.ref fa, .ref fb, .ref fd, .int 0]))] sz) := by
  refine Met.ofW (cc := cX11_filterSuccessors) (maxL := 4) (ret := (some .int)) (by decide) rfl ?_
  intro p e s m args below meth c s₁ B hml hv
  obtain ⟨rfl, hsz, hP, hK, hN, hD0⟩ := hv
  have hx := B.exec
  have hb := B.bytes
  have hr := B.returns
  have hts := atoms_spec (ws := wd_X11_filterSuccessors) B.pre
  have hown : s.vm.findClass RX11 = some m.cls := findClass_of_methodNamed B.named
  have hlocks := B.notSynchronized
  subst hsz
  have hD := hD0.self (sz := s.heap.size)
  generalize hAe : va_A [(x, .inr (11, [.ref mo, .ref sm, .ref sc, .ref fo, .ref sf, .ref bu, .ref po, .ref te, .ref pa, .ref rw, .ref tr, .ref cl, .ref pt, .ref ru, .ref de, .int 0, .int 0])), (fo, .inr (9, [.ref fa, .ref fb, .ref fd, .int 0]))] s.heap.size = A at hD ⊢
  have hA : ∀ q : Nat, s.heap.size ≤ q → A q := fun q h => by rw [← hAe]; exact Or.inr h
  have hS : va_S A s.heap s.heap [] := va_S.rf
  have hiX11 : ∀ w ∈ wsX110, w ∈ wd_X11_filterSuccessors := mb_X11_filterSuccessors_1
  have hl := lv_entry ([.ref x, .int g1, .int g2, .int g3]) (n := 4) (Nat.le_of_ble_eq_true rfl)
  rw [lg_entry_eq]
  generalize (lg_sl ([.ref x, .int g1, .int g2, .int g3]) ++ List.replicate (4 - (lg_sl ([.ref x, .int g1, .int g2, .int g3])).length) Slot.unset).toArray = ls at hl ⊢
  have hl : lv_has ls 4 [(0, .ref x), (1, .int g1), (2, .int g2), (3, .int g3)] := hl
  refine lv_aload_n hx hb dX11_filterSuccessors_0 rfl (lv_at hl 0 rfl) ?_
  refine va_get (D := D) (ci := 11) (v := .ref fo) (C := RX11) (T := TX11) (N := 17) hx hb hts hiX11 hown hK hP 0 rfl rfl 3 (by decide) (hts (.fieldLink RX11 27 "DynamicLogicProver" "formulas" "LDynamicLogicProver$Shelf;") (mo_X11_filterSuccessors 0 rfl)) (fun _ h9 => h9) rfl dX11_filterSuccessors_1 ?_
  refine lv_iload_n hx hb dX11_filterSuccessors_4 rfl (lv_at hl 1 rfl) ?_
  refine kc_Vi (As := [.int g1]) (rest := []) (wr := [(x, .inr (11, [.ref mo, .ref sm, .ref sc, .ref fo, .ref sf, .ref bu, .ref po, .ref te, .ref pa, .ref rw, .ref tr, .ref cl, .ref pt, .ref ru, .ref de, .int 0, .int 0]))]) ⟨hx, hb, hml, hown, hts⟩ (ct_X9_has0 l D fo fa fb fd g1 _ ) (cwV 1 hts (kg_V (mo_X11_filterSuccessors 1 rfl) (mo_X11_filterSuccessors 2 rfl) (mo_X11_filterSuccessors 3 rfl) (mo_X11_filterSuccessors 4 rfl) (goodIn_sub mb_X11_filterSuccessors_0 gw_X9_has0)) rfl rfl rfl ⟨rfl, hd_X9_has⟩ ⟨Nat.le_of_ble_eq_true rfl, Nat.le_of_ble_eq_true rfl⟩) (RX9, TX9, 4) 9 1 rfl rfl rfl hK hN hP hD hS hA [1] [0] [] rfl rfl (by decide) (by decide) (by decide) rfl rfl hl.1 rfl (Nat.le_of_ble_eq_true rfl) dX11_filterSuccessors_5 ⟨Nat.le_of_ble_eq_true rfl, Nat.le_of_ble_eq_true rfl⟩ (fun r_1 u_2 H locs w_3 hP hD hK1 hS => ?_)
  have hP : va_P D vwCl [(x, .inr (11, [.ref mo, .ref sm, .ref sc, .ref fo, .ref sf, .ref bu, .ref po, .ref te, .ref pa, .ref rw, .ref tr, .ref cl, .ref pt, .ref ru, .ref de, .int 0, .int 0])), (fo, .inr (9, [.ref fa, .ref fb, .ref fd, .int 0]))] H := hP
  have hD : va_D A [(x, .inr (11, [.ref mo, .ref sm, .ref sc, .ref fo, .ref sf, .ref bu, .ref po, .ref te, .ref pa, .ref rw, .ref tr, .ref cl, .ref pt, .ref ru, .ref de, .int 0, .int 0])), (fo, .inr (9, [.ref fa, .ref fb, .ref fd, .int 0]))] := hD
  have w_3 : r_1 = 0 := w_3
  subst w_3
  refine lv_if_eq (tgt := 18) hx hb dX11_filterSuccessors_8 (by decide) (fun c_4 => ?_) (fun c_4 => ?_)
  · refine lv_iconst (v := (-1)) hx hb dX11_filterSuccessors_18 (by decide) ?_
    have hP9 := hP.sub (ws' := []) [] rfl
    have hD9 := hD.sub (ws' := []) [] (by decide) rfl
    have hK9 := hK.sub (tys' := []) [] rfl
    exact W.iret (v := (-1)) hx hb hr (fun tZ htZ hW => ⟨⟨(-1), (), rfl, rfl, by rw [htZ]; exact hP9, va_K.moved hW.alike hK9, hD9⟩, hS.F htZ⟩) hS.2.2 dX11_filterSuccessors_19
  · exact absurd c_4 (by decide)
theorem dX11_filterHolds_0 : decode cX11_filterHolds 0 = .ok (.aload_n 0, 1) := by decide +kernel
theorem dX11_filterHolds_1 : decode cX11_filterHolds 1 = .ok (.getfield 27, 3) := by decide +kernel
theorem dX11_filterHolds_4 : decode cX11_filterHolds 4 = .ok (.iload_n 1, 1) := by decide +kernel
theorem dX11_filterHolds_5 : decode cX11_filterHolds 5 = .ok (.invokevirtual 196, 3) := by decide +kernel
theorem dX11_filterHolds_8 : decode cX11_filterHolds 8 = .ok (.ifCond .eq 14, 3) := by decide +kernel
theorem dX11_filterHolds_11 : decode cX11_filterHolds 11 = .ok (.aload_n 0, 1) := by decide +kernel
theorem dX11_filterHolds_12 : decode cX11_filterHolds 12 = .ok (.getfield 27, 3) := by decide +kernel
theorem dX11_filterHolds_15 : decode cX11_filterHolds 15 = .ok (.iload_n 2, 1) := by decide +kernel
theorem dX11_filterHolds_16 : decode cX11_filterHolds 16 = .ok (.invokevirtual 196, 3) := by decide +kernel
theorem dX11_filterHolds_19 : decode cX11_filterHolds 19 = .ok (.ifCond .ne 5, 3) := by decide +kernel
theorem dX11_filterHolds_22 : decode cX11_filterHolds 22 = .ok (.iconst (-1), 1) := by decide +kernel
theorem dX11_filterHolds_23 : decode cX11_filterHolds 23 = .ok (.ireturn, 1) := by decide +kernel
theorem dX11_filterHolds_24 : decode cX11_filterHolds 24 = .ok (.aload_n 0, 1) := by decide +kernel
theorem dX11_filterHolds_25 : decode cX11_filterHolds 25 = .ok (.iload_n 1, 1) := by decide +kernel
theorem dX11_filterHolds_26 : decode cX11_filterHolds 26 = .ok (.invokevirtual 279, 3) := by decide +kernel
theorem dX11_filterHolds_29 : decode cX11_filterHolds 29 = .ok (.aload_n 0, 1) := by decide +kernel
theorem dX11_filterHolds_30 : decode cX11_filterHolds 30 = .ok (.getfield 21, 3) := by decide +kernel
theorem dX11_filterHolds_33 : decode cX11_filterHolds 33 = .ok (.iload_n 3, 1) := by decide +kernel
theorem dX11_filterHolds_34 : decode cX11_filterHolds 34 = .ok (.invokevirtual 125, 3) := by decide +kernel
theorem dX11_filterHolds_37 : decode cX11_filterHolds 37 = .ok (.ifCond .ne 5, 3) := by decide +kernel
theorem dX11_filterHolds_40 : decode cX11_filterHolds 40 = .ok (.iconst (-1), 1) := by decide +kernel
theorem dX11_filterHolds_41 : decode cX11_filterHolds 41 = .ok (.ireturn, 1) := by decide +kernel
theorem dX11_filterHolds_42 : decode cX11_filterHolds 42 = .ok (.aload_n 0, 1) := by decide +kernel
theorem dX11_filterHolds_43 : decode cX11_filterHolds 43 = .ok (.iload_n 2, 1) := by decide +kernel
theorem dX11_filterHolds_44 : decode cX11_filterHolds 44 = .ok (.invokevirtual 200, 3) := by decide +kernel
theorem dX11_filterHolds_47 : decode cX11_filterHolds 47 = .ok (.istore 4, 2) := by decide +kernel
theorem dX11_filterHolds_49 : decode cX11_filterHolds 49 = .ok (.aload_n 0, 1) := by decide +kernel
theorem dX11_filterHolds_50 : decode cX11_filterHolds 50 = .ok (.getfield 73, 3) := by decide +kernel
theorem dX11_filterHolds_53 : decode cX11_filterHolds 53 = .ok (.aload_n 0, 1) := by decide +kernel
theorem dX11_filterHolds_54 : decode cX11_filterHolds 54 = .ok (.getfield 21, 3) := by decide +kernel
theorem dX11_filterHolds_57 : decode cX11_filterHolds 57 = .ok (.invokevirtual 226, 3) := by decide +kernel
theorem dX11_filterHolds_60 : decode cX11_filterHolds 60 = .ok (.aload_n 0, 1) := by decide +kernel
theorem dX11_filterHolds_61 : decode cX11_filterHolds 61 = .ok (.getfield 73, 3) := by decide +kernel
theorem dX11_filterHolds_64 : decode cX11_filterHolds 64 = .ok (.iload 4, 2) := by decide +kernel
theorem dX11_filterHolds_66 : decode cX11_filterHolds 66 = .ok (.invokevirtual 276, 3) := by decide +kernel
theorem dX11_filterHolds_69 : decode cX11_filterHolds 69 = .ok (.iload_n 3, 1) := by decide +kernel
theorem dX11_filterHolds_70 : decode cX11_filterHolds 70 = .ok (.ishr, 1) := by decide +kernel
theorem dX11_filterHolds_71 : decode cX11_filterHolds 71 = .ok (.iconst 1, 1) := by decide +kernel
theorem dX11_filterHolds_72 : decode cX11_filterHolds 72 = .ok (.iand, 1) := by decide +kernel
theorem dX11_filterHolds_73 : decode cX11_filterHolds 73 = .ok (.ireturn, 1) := by decide +kernel
def wo_X11_filterHolds : List Cond := [.fieldLink RX11 27 "DynamicLogicProver" "formulas" "LDynamicLogicProver$Shelf;", .methodLink RX11 196 yX9_has, .instanceMethod yX9_has, .selects RX9 yX9_has yX9_has, .initialized RX9]
def wd_X11_filterHolds : List Cond := .code yX11_filterHolds cX11_filterHolds 5 (some .int) :: (wo_X11_filterHolds ++ (wd_X9_has0 ++ (wsX110 ++ ([] : List Cond))))
theorem mo_X11_filterHolds {w : Cond} (i : Nat) (h : wo_X11_filterHolds[i]? = some w) : w ∈ wd_X11_filterHolds := List.mem_cons_of_mem _ (List.mem_append_left _ (List.mem_of_getElem? h))
theorem mb_X11_filterHolds_0 : ∀ w ∈ wd_X9_has0, w ∈ wd_X11_filterHolds := fun w h => List.mem_cons_of_mem _ (List.mem_append_right _ (List.mem_append_left _ h))
theorem mb_X11_filterHolds_1 : ∀ w ∈ wsX110, w ∈ wd_X11_filterHolds := fun w h => List.mem_cons_of_mem _ (List.mem_append_right _ (List.mem_append_right _ (List.mem_append_left _ h)))
theorem hd_X11_filterHolds : yX11_filterHolds.cls ≠ "java/lang/invoke/MethodHandle" ∧ yX11_filterHolds.cls ≠ "java/lang/invoke/VarHandle" ∧ (parseMethodDescriptor yX11_filterHolds.desc).map (fun d => d.parameters.length) = some 3 := by decide +kernel
set_option maxRecDepth 20000 in
theorem gw_X11_filterHolds : wd_X11_filterHolds.all goodWord = true := by decide +kernel
abbrev qc_X11_filterHolds (D : va_G) (x : Nat) (mo : Nat) (sm : Nat) (sc : Nat) (fo : Nat) (sf : Nat) (bu : Nat) (po : Nat) (te : Nat) (pa : Nat) (rw : Nat) (tr : Nat) (cl : Nat) (pt : Nat) (ru : Nat) (de : Nat) (fa : Nat) (fb : Nat) (fd : Nat) (g1 : Int32) (g2 : Int32) (g3 : Int32) (A : Nat → Prop) : Array Value → State → Outcome → State → Prop := va_Qi (fun (r : Int32) (uZ : Unit) => r = (-1)) (fun uZ tZ => kc_pos D A [] [] tZ) A
set_option maxHeartbeats 4000000 in
set_option maxRecDepth 100000 in
theorem ct_X11_filterHolds (l : Launch) (D : va_G) (x : Nat) (mo : Nat) (sm : Nat) (sc : Nat) (fo : Nat) (sf : Nat) (bu : Nat) (po : Nat) (te : Nat) (pa : Nat) (rw : Nat) (tr : Nat) (cl : Nat) (pt : Nat) (ru : Nat) (de : Nat) (fa : Nat) (fb : Nat) (fd : Nat) (g1 : Int32) (g2 : Int32) (g3 : Int32) (sz : Nat)  : Met l yX11_filterHolds wd_X11_filterHolds ({ frames := 1, cells := 0, slots := 0, locals := 21 }) (va_Pc [.ref x, .int g1, .int g2, .int g3] (kc_pre D [] [(x, .inr (11, [.ref mo, .ref sm, .ref sc, .ref fo, .ref sf, .ref bu, .ref po, .ref te, .ref pa, .ref rw, .ref tr, .ref cl, .ref pt, .ref ru, .ref de, .int 0, .int 0])), (fo, .inr (9, [.ref fa, .ref fb, .ref fd, .int 0]))] sz)) (qc_X11_filterHolds D x mo sm sc fo sf bu po te pa rw tr cl pt ru de fa fb fd g1 g2 g3 (va_A [(x, .inr (11, [.ref mo, .ref sm, .ref sc, .ref fo, .ref sf, .ref bu, .ref po, .ref te, .ref pa, .ref rw, .ref tr, .ref cl, .ref pt, .ref ru, .ref de, .int 0, .int 0])), (fo, .inr (9, [.ref fa, .ref fb, .ref fd, .int 0]))] sz)) 0 0 (va_A [(x, .inr (11, [.ref mo, .ref sm, .ref sc, .ref fo, .ref sf, .ref bu, .ref po, .ref te, .ref pa, .ref rw, .ref tr, .ref cl, .ref pt, .ref ru, .ref de, .int 0, .int 0])), (fo, .inr (9, [.ref fa, .ref fb, .ref fd, .int 0]))] sz) := by
  refine Met.ofW (cc := cX11_filterHolds) (maxL := 5) (ret := (some .int)) (by decide) rfl ?_
  intro p e s m args below meth c s₁ B hml hv
  obtain ⟨rfl, hsz, hP, hK, hN, hD0⟩ := hv
  have hx := B.exec
  have hb := B.bytes
  have hr := B.returns
  have hts := atoms_spec (ws := wd_X11_filterHolds) B.pre
  have hown : s.vm.findClass RX11 = some m.cls := findClass_of_methodNamed B.named
  have hlocks := B.notSynchronized
  subst hsz
  have hD := hD0.self (sz := s.heap.size)
  generalize hAe : va_A [(x, .inr (11, [.ref mo, .ref sm, .ref sc, .ref fo, .ref sf, .ref bu, .ref po, .ref te, .ref pa, .ref rw, .ref tr, .ref cl, .ref pt, .ref ru, .ref de, .int 0, .int 0])), (fo, .inr (9, [.ref fa, .ref fb, .ref fd, .int 0]))] s.heap.size = A at hD ⊢
  have hA : ∀ q : Nat, s.heap.size ≤ q → A q := fun q h => by rw [← hAe]; exact Or.inr h
  have hS : va_S A s.heap s.heap [] := va_S.rf
  have hiX11 : ∀ w ∈ wsX110, w ∈ wd_X11_filterHolds := mb_X11_filterHolds_1
  have hl := lv_entry ([.ref x, .int g1, .int g2, .int g3]) (n := 5) (Nat.le_of_ble_eq_true rfl)
  rw [lg_entry_eq]
  generalize (lg_sl ([.ref x, .int g1, .int g2, .int g3]) ++ List.replicate (5 - (lg_sl ([.ref x, .int g1, .int g2, .int g3])).length) Slot.unset).toArray = ls at hl ⊢
  have hl : lv_has ls 5 [(0, .ref x), (1, .int g1), (2, .int g2), (3, .int g3)] := hl
  refine lv_aload_n hx hb dX11_filterHolds_0 rfl (lv_at hl 0 rfl) ?_
  refine va_get (D := D) (ci := 11) (v := .ref fo) (C := RX11) (T := TX11) (N := 17) hx hb hts hiX11 hown hK hP 0 rfl rfl 3 (by decide) (hts (.fieldLink RX11 27 "DynamicLogicProver" "formulas" "LDynamicLogicProver$Shelf;") (mo_X11_filterHolds 0 rfl)) (fun _ h9 => h9) rfl dX11_filterHolds_1 ?_
  refine lv_iload_n hx hb dX11_filterHolds_4 rfl (lv_at hl 1 rfl) ?_
  refine kc_Vi (As := [.int g1]) (rest := []) (wr := [(x, .inr (11, [.ref mo, .ref sm, .ref sc, .ref fo, .ref sf, .ref bu, .ref po, .ref te, .ref pa, .ref rw, .ref tr, .ref cl, .ref pt, .ref ru, .ref de, .int 0, .int 0]))]) ⟨hx, hb, hml, hown, hts⟩ (ct_X9_has0 l D fo fa fb fd g1 _ ) (cwV 1 hts (kg_V (mo_X11_filterHolds 1 rfl) (mo_X11_filterHolds 2 rfl) (mo_X11_filterHolds 3 rfl) (mo_X11_filterHolds 4 rfl) (goodIn_sub mb_X11_filterHolds_0 gw_X9_has0)) rfl rfl rfl ⟨rfl, hd_X9_has⟩ ⟨Nat.le_of_ble_eq_true rfl, Nat.le_of_ble_eq_true rfl⟩) (RX9, TX9, 4) 9 1 rfl rfl rfl hK hN hP hD hS hA [1] [0] [] rfl rfl (by decide) (by decide) (by decide) rfl rfl hl.1 rfl (Nat.le_of_ble_eq_true rfl) dX11_filterHolds_5 ⟨Nat.le_of_ble_eq_true rfl, Nat.le_of_ble_eq_true rfl⟩ (fun r_1 u_2 H locs w_3 hP hD hK1 hS => ?_)
  have hP : va_P D vwCl [(x, .inr (11, [.ref mo, .ref sm, .ref sc, .ref fo, .ref sf, .ref bu, .ref po, .ref te, .ref pa, .ref rw, .ref tr, .ref cl, .ref pt, .ref ru, .ref de, .int 0, .int 0])), (fo, .inr (9, [.ref fa, .ref fb, .ref fd, .int 0]))] H := hP
  have hD : va_D A [(x, .inr (11, [.ref mo, .ref sm, .ref sc, .ref fo, .ref sf, .ref bu, .ref po, .ref te, .ref pa, .ref rw, .ref tr, .ref cl, .ref pt, .ref ru, .ref de, .int 0, .int 0])), (fo, .inr (9, [.ref fa, .ref fb, .ref fd, .int 0]))] := hD
  have w_3 : r_1 = 0 := w_3
  subst w_3
  refine lv_if_eq (tgt := 22) hx hb dX11_filterHolds_8 (by decide) (fun c_4 => ?_) (fun c_4 => ?_)
  · refine lv_iconst (v := (-1)) hx hb dX11_filterHolds_22 (by decide) ?_
    have hP9 := hP.sub (ws' := []) [] rfl
    have hD9 := hD.sub (ws' := []) [] (by decide) rfl
    have hK9 := hK.sub (tys' := []) [] rfl
    exact W.iret (v := (-1)) hx hb hr (fun tZ htZ hW => ⟨⟨(-1), (), rfl, rfl, by rw [htZ]; exact hP9, va_K.moved hW.alike hK9, hD9⟩, hS.F htZ⟩) hS.2.2 dX11_filterHolds_23
  · exact absurd c_4 (by decide)
theorem dX11_applyFilter_0 : decode cX11_applyFilter 0 = .ok (.aload_n 0, 1) := by decide +kernel
theorem dX11_applyFilter_1 : decode cX11_applyFilter 1 = .ok (.getfield 27, 3) := by decide +kernel
theorem dX11_applyFilter_4 : decode cX11_applyFilter 4 = .ok (.iload_n 1, 1) := by decide +kernel
theorem dX11_applyFilter_5 : decode cX11_applyFilter 5 = .ok (.invokevirtual 196, 3) := by decide +kernel
theorem dX11_applyFilter_8 : decode cX11_applyFilter 8 = .ok (.ifCond .ne 5, 3) := by decide +kernel
theorem dX11_applyFilter_11 : decode cX11_applyFilter 11 = .ok (.iconst (-1), 1) := by decide +kernel
theorem dX11_applyFilter_12 : decode cX11_applyFilter 12 = .ok (.ireturn, 1) := by decide +kernel
theorem dX11_applyFilter_13 : decode cX11_applyFilter 13 = .ok (.aload_n 0, 1) := by decide +kernel
theorem dX11_applyFilter_14 : decode cX11_applyFilter 14 = .ok (.iload_n 1, 1) := by decide +kernel
theorem dX11_applyFilter_15 : decode cX11_applyFilter 15 = .ok (.invokevirtual 279, 3) := by decide +kernel
theorem dX11_applyFilter_18 : decode cX11_applyFilter 18 = .ok (.aload_n 0, 1) := by decide +kernel
theorem dX11_applyFilter_19 : decode cX11_applyFilter 19 = .ok (.getfield 12, 3) := by decide +kernel
theorem dX11_applyFilter_22 : decode cX11_applyFilter 22 = .ok (.aload_n 0, 1) := by decide +kernel
theorem dX11_applyFilter_23 : decode cX11_applyFilter 23 = .ok (.getfield 21, 3) := by decide +kernel
theorem dX11_applyFilter_26 : decode cX11_applyFilter 26 = .ok (.invokevirtual 282, 3) := by decide +kernel
theorem dX11_applyFilter_29 : decode cX11_applyFilter 29 = .ok (.aload_n 0, 1) := by decide +kernel
theorem dX11_applyFilter_30 : decode cX11_applyFilter 30 = .ok (.getfield 12, 3) := by decide +kernel
theorem dX11_applyFilter_33 : decode cX11_applyFilter 33 = .ok (.invokevirtual 117, 3) := by decide +kernel
theorem dX11_applyFilter_36 : decode cX11_applyFilter 36 = .ok (.ireturn, 1) := by decide +kernel
def wo_X11_applyFilter : List Cond := [.fieldLink RX11 27 "DynamicLogicProver" "formulas" "LDynamicLogicProver$Shelf;", .methodLink RX11 196 yX9_has, .instanceMethod yX9_has, .selects RX9 yX9_has yX9_has, .initialized RX9]
def wd_X11_applyFilter : List Cond := .code yX11_applyFilter cX11_applyFilter 2 (some .int) :: (wo_X11_applyFilter ++ (wd_X9_has0 ++ (wsX110 ++ ([] : List Cond))))
theorem mo_X11_applyFilter {w : Cond} (i : Nat) (h : wo_X11_applyFilter[i]? = some w) : w ∈ wd_X11_applyFilter := List.mem_cons_of_mem _ (List.mem_append_left _ (List.mem_of_getElem? h))
theorem mb_X11_applyFilter_0 : ∀ w ∈ wd_X9_has0, w ∈ wd_X11_applyFilter := fun w h => List.mem_cons_of_mem _ (List.mem_append_right _ (List.mem_append_left _ h))
theorem mb_X11_applyFilter_1 : ∀ w ∈ wsX110, w ∈ wd_X11_applyFilter := fun w h => List.mem_cons_of_mem _ (List.mem_append_right _ (List.mem_append_right _ (List.mem_append_left _ h)))
theorem hd_X11_applyFilter : yX11_applyFilter.cls ≠ "java/lang/invoke/MethodHandle" ∧ yX11_applyFilter.cls ≠ "java/lang/invoke/VarHandle" ∧ (parseMethodDescriptor yX11_applyFilter.desc).map (fun d => d.parameters.length) = some 1 := by decide +kernel
set_option maxRecDepth 20000 in
theorem gw_X11_applyFilter : wd_X11_applyFilter.all goodWord = true := by decide +kernel
abbrev qc_X11_applyFilter (D : va_G) (x : Nat) (mo : Nat) (sm : Nat) (sc : Nat) (fo : Nat) (sf : Nat) (bu : Nat) (po : Nat) (te : Nat) (pa : Nat) (rw : Nat) (tr : Nat) (cl : Nat) (pt : Nat) (ru : Nat) (de : Nat) (fa : Nat) (fb : Nat) (fd : Nat) (g1 : Int32) (A : Nat → Prop) : Array Value → State → Outcome → State → Prop := va_Qi (fun (r : Int32) (uZ : Unit) => r = (-1)) (fun uZ tZ => kc_pos D A [] [] tZ) A
set_option maxHeartbeats 4000000 in
set_option maxRecDepth 100000 in
theorem ct_X11_applyFilter (l : Launch) (D : va_G) (x : Nat) (mo : Nat) (sm : Nat) (sc : Nat) (fo : Nat) (sf : Nat) (bu : Nat) (po : Nat) (te : Nat) (pa : Nat) (rw : Nat) (tr : Nat) (cl : Nat) (pt : Nat) (ru : Nat) (de : Nat) (fa : Nat) (fb : Nat) (fd : Nat) (g1 : Int32) (sz : Nat)  : Met l yX11_applyFilter wd_X11_applyFilter ({ frames := 1, cells := 0, slots := 0, locals := 21 }) (va_Pc [.ref x, .int g1] (kc_pre D [] [(x, .inr (11, [.ref mo, .ref sm, .ref sc, .ref fo, .ref sf, .ref bu, .ref po, .ref te, .ref pa, .ref rw, .ref tr, .ref cl, .ref pt, .ref ru, .ref de, .int 0, .int 0])), (fo, .inr (9, [.ref fa, .ref fb, .ref fd, .int 0]))] sz)) (qc_X11_applyFilter D x mo sm sc fo sf bu po te pa rw tr cl pt ru de fa fb fd g1 (va_A [(x, .inr (11, [.ref mo, .ref sm, .ref sc, .ref fo, .ref sf, .ref bu, .ref po, .ref te, .ref pa, .ref rw, .ref tr, .ref cl, .ref pt, .ref ru, .ref de, .int 0, .int 0])), (fo, .inr (9, [.ref fa, .ref fb, .ref fd, .int 0]))] sz)) 0 0 (va_A [(x, .inr (11, [.ref mo, .ref sm, .ref sc, .ref fo, .ref sf, .ref bu, .ref po, .ref te, .ref pa, .ref rw, .ref tr, .ref cl, .ref pt, .ref ru, .ref de, .int 0, .int 0])), (fo, .inr (9, [.ref fa, .ref fb, .ref fd, .int 0]))] sz) := by
  refine Met.ofW (cc := cX11_applyFilter) (maxL := 2) (ret := (some .int)) (by decide) rfl ?_
  intro p e s m args below meth c s₁ B hml hv
  obtain ⟨rfl, hsz, hP, hK, hN, hD0⟩ := hv
  have hx := B.exec
  have hb := B.bytes
  have hr := B.returns
  have hts := atoms_spec (ws := wd_X11_applyFilter) B.pre
  have hown : s.vm.findClass RX11 = some m.cls := findClass_of_methodNamed B.named
  have hlocks := B.notSynchronized
  subst hsz
  have hD := hD0.self (sz := s.heap.size)
  generalize hAe : va_A [(x, .inr (11, [.ref mo, .ref sm, .ref sc, .ref fo, .ref sf, .ref bu, .ref po, .ref te, .ref pa, .ref rw, .ref tr, .ref cl, .ref pt, .ref ru, .ref de, .int 0, .int 0])), (fo, .inr (9, [.ref fa, .ref fb, .ref fd, .int 0]))] s.heap.size = A at hD ⊢
  have hA : ∀ q : Nat, s.heap.size ≤ q → A q := fun q h => by rw [← hAe]; exact Or.inr h
  have hS : va_S A s.heap s.heap [] := va_S.rf
  have hiX11 : ∀ w ∈ wsX110, w ∈ wd_X11_applyFilter := mb_X11_applyFilter_1
  have hl := lv_entry ([.ref x, .int g1]) (n := 2) (Nat.le_of_ble_eq_true rfl)
  rw [lg_entry_eq]
  generalize (lg_sl ([.ref x, .int g1]) ++ List.replicate (2 - (lg_sl ([.ref x, .int g1])).length) Slot.unset).toArray = ls at hl ⊢
  have hl : lv_has ls 2 [(0, .ref x), (1, .int g1)] := hl
  refine lv_aload_n hx hb dX11_applyFilter_0 rfl (lv_at hl 0 rfl) ?_
  refine va_get (D := D) (ci := 11) (v := .ref fo) (C := RX11) (T := TX11) (N := 17) hx hb hts hiX11 hown hK hP 0 rfl rfl 3 (by decide) (hts (.fieldLink RX11 27 "DynamicLogicProver" "formulas" "LDynamicLogicProver$Shelf;") (mo_X11_applyFilter 0 rfl)) (fun _ h9 => h9) rfl dX11_applyFilter_1 ?_
  refine lv_iload_n hx hb dX11_applyFilter_4 rfl (lv_at hl 1 rfl) ?_
  refine kc_Vi (As := [.int g1]) (rest := []) (wr := [(x, .inr (11, [.ref mo, .ref sm, .ref sc, .ref fo, .ref sf, .ref bu, .ref po, .ref te, .ref pa, .ref rw, .ref tr, .ref cl, .ref pt, .ref ru, .ref de, .int 0, .int 0]))]) ⟨hx, hb, hml, hown, hts⟩ (ct_X9_has0 l D fo fa fb fd g1 _ ) (cwV 1 hts (kg_V (mo_X11_applyFilter 1 rfl) (mo_X11_applyFilter 2 rfl) (mo_X11_applyFilter 3 rfl) (mo_X11_applyFilter 4 rfl) (goodIn_sub mb_X11_applyFilter_0 gw_X9_has0)) rfl rfl rfl ⟨rfl, hd_X9_has⟩ ⟨Nat.le_of_ble_eq_true rfl, Nat.le_of_ble_eq_true rfl⟩) (RX9, TX9, 4) 9 1 rfl rfl rfl hK hN hP hD hS hA [1] [0] [] rfl rfl (by decide) (by decide) (by decide) rfl rfl hl.1 rfl (Nat.le_of_ble_eq_true rfl) dX11_applyFilter_5 ⟨Nat.le_of_ble_eq_true rfl, Nat.le_of_ble_eq_true rfl⟩ (fun r_1 u_2 H locs w_3 hP hD hK1 hS => ?_)
  have hP : va_P D vwCl [(x, .inr (11, [.ref mo, .ref sm, .ref sc, .ref fo, .ref sf, .ref bu, .ref po, .ref te, .ref pa, .ref rw, .ref tr, .ref cl, .ref pt, .ref ru, .ref de, .int 0, .int 0])), (fo, .inr (9, [.ref fa, .ref fb, .ref fd, .int 0]))] H := hP
  have hD : va_D A [(x, .inr (11, [.ref mo, .ref sm, .ref sc, .ref fo, .ref sf, .ref bu, .ref po, .ref te, .ref pa, .ref rw, .ref tr, .ref cl, .ref pt, .ref ru, .ref de, .int 0, .int 0])), (fo, .inr (9, [.ref fa, .ref fb, .ref fd, .int 0]))] := hD
  have w_3 : r_1 = 0 := w_3
  subst w_3
  refine lv_if_ne (tgt := 13) hx hb dX11_applyFilter_8 (by decide) (fun c_4 => ?_) (fun c_4 => ?_)
  · exact absurd c_4 (by decide)
  · refine lv_iconst (v := (-1)) hx hb dX11_applyFilter_11 (by decide) ?_
    have hP9 := hP.sub (ws' := []) [] rfl
    have hD9 := hD.sub (ws' := []) [] (by decide) rfl
    have hK9 := hK.sub (tys' := []) [] rfl
    exact W.iret (v := (-1)) hx hb hr (fun tZ htZ hW => ⟨⟨(-1), (), rfl, rfl, by rw [htZ]; exact hP9, va_K.moved hW.alike hK9, hD9⟩, hS.F htZ⟩) hS.2.2 dX11_applyFilter_12
theorem dX11_unfold_0 : decode cX11_unfold 0 = .ok (.aload_n 0, 1) := by decide +kernel
theorem dX11_unfold_1 : decode cX11_unfold 1 = .ok (.getfield 27, 3) := by decide +kernel
theorem dX11_unfold_4 : decode cX11_unfold 4 = .ok (.iload_n 1, 1) := by decide +kernel
theorem dX11_unfold_5 : decode cX11_unfold 5 = .ok (.invokevirtual 196, 3) := by decide +kernel
theorem dX11_unfold_8 : decode cX11_unfold 8 = .ok (.ifCond .eq 22, 3) := by decide +kernel
theorem dX11_unfold_11 : decode cX11_unfold 11 = .ok (.aload_n 0, 1) := by decide +kernel
theorem dX11_unfold_12 : decode cX11_unfold 12 = .ok (.aload_n 0, 1) := by decide +kernel
theorem dX11_unfold_13 : decode cX11_unfold 13 = .ok (.getfield 66, 3) := by decide +kernel
theorem dX11_unfold_16 : decode cX11_unfold 16 = .ok (.aload_n 0, 1) := by decide +kernel
theorem dX11_unfold_17 : decode cX11_unfold 17 = .ok (.iload_n 1, 1) := by decide +kernel
theorem dX11_unfold_18 : decode cX11_unfold 18 = .ok (.invokevirtual 200, 3) := by decide +kernel
theorem dX11_unfold_21 : decode cX11_unfold 21 = .ok (.invokevirtual 285, 3) := by decide +kernel
theorem dX11_unfold_24 : decode cX11_unfold 24 = .ok (.invokevirtual 187, 3) := by decide +kernel
theorem dX11_unfold_27 : decode cX11_unfold 27 = .ok (.goto 4, 3) := by decide +kernel
theorem dX11_unfold_30 : decode cX11_unfold 30 = .ok (.iconst (-1), 1) := by decide +kernel
theorem dX11_unfold_31 : decode cX11_unfold 31 = .ok (.ireturn, 1) := by decide +kernel
def wo_X11_unfold : List Cond := [.fieldLink RX11 27 "DynamicLogicProver" "formulas" "LDynamicLogicProver$Shelf;", .methodLink RX11 196 yX9_has, .instanceMethod yX9_has, .selects RX9 yX9_has yX9_has, .initialized RX9]
def wd_X11_unfold : List Cond := .code yX11_unfold cX11_unfold 2 (some .int) :: (wo_X11_unfold ++ (wd_X9_has0 ++ (wsX110 ++ ([] : List Cond))))
theorem mo_X11_unfold {w : Cond} (i : Nat) (h : wo_X11_unfold[i]? = some w) : w ∈ wd_X11_unfold := List.mem_cons_of_mem _ (List.mem_append_left _ (List.mem_of_getElem? h))
theorem mb_X11_unfold_0 : ∀ w ∈ wd_X9_has0, w ∈ wd_X11_unfold := fun w h => List.mem_cons_of_mem _ (List.mem_append_right _ (List.mem_append_left _ h))
theorem mb_X11_unfold_1 : ∀ w ∈ wsX110, w ∈ wd_X11_unfold := fun w h => List.mem_cons_of_mem _ (List.mem_append_right _ (List.mem_append_right _ (List.mem_append_left _ h)))
theorem hd_X11_unfold : yX11_unfold.cls ≠ "java/lang/invoke/MethodHandle" ∧ yX11_unfold.cls ≠ "java/lang/invoke/VarHandle" ∧ (parseMethodDescriptor yX11_unfold.desc).map (fun d => d.parameters.length) = some 1 := by decide +kernel
set_option maxRecDepth 20000 in
theorem gw_X11_unfold : wd_X11_unfold.all goodWord = true := by decide +kernel
abbrev qc_X11_unfold (D : va_G) (x : Nat) (mo : Nat) (sm : Nat) (sc : Nat) (fo : Nat) (sf : Nat) (bu : Nat) (po : Nat) (te : Nat) (pa : Nat) (rw : Nat) (tr : Nat) (cl : Nat) (pt : Nat) (ru : Nat) (de : Nat) (fa : Nat) (fb : Nat) (fd : Nat) (g1 : Int32) (A : Nat → Prop) : Array Value → State → Outcome → State → Prop := va_Qi (fun (r : Int32) (uZ : Unit) => r = (-1)) (fun uZ tZ => kc_pos D A [] [] tZ) A
set_option maxHeartbeats 4000000 in
set_option maxRecDepth 100000 in
theorem ct_X11_unfold (l : Launch) (D : va_G) (x : Nat) (mo : Nat) (sm : Nat) (sc : Nat) (fo : Nat) (sf : Nat) (bu : Nat) (po : Nat) (te : Nat) (pa : Nat) (rw : Nat) (tr : Nat) (cl : Nat) (pt : Nat) (ru : Nat) (de : Nat) (fa : Nat) (fb : Nat) (fd : Nat) (g1 : Int32) (sz : Nat)  : Met l yX11_unfold wd_X11_unfold ({ frames := 1, cells := 0, slots := 0, locals := 21 }) (va_Pc [.ref x, .int g1] (kc_pre D [] [(x, .inr (11, [.ref mo, .ref sm, .ref sc, .ref fo, .ref sf, .ref bu, .ref po, .ref te, .ref pa, .ref rw, .ref tr, .ref cl, .ref pt, .ref ru, .ref de, .int 0, .int 0])), (fo, .inr (9, [.ref fa, .ref fb, .ref fd, .int 0]))] sz)) (qc_X11_unfold D x mo sm sc fo sf bu po te pa rw tr cl pt ru de fa fb fd g1 (va_A [(x, .inr (11, [.ref mo, .ref sm, .ref sc, .ref fo, .ref sf, .ref bu, .ref po, .ref te, .ref pa, .ref rw, .ref tr, .ref cl, .ref pt, .ref ru, .ref de, .int 0, .int 0])), (fo, .inr (9, [.ref fa, .ref fb, .ref fd, .int 0]))] sz)) 0 0 (va_A [(x, .inr (11, [.ref mo, .ref sm, .ref sc, .ref fo, .ref sf, .ref bu, .ref po, .ref te, .ref pa, .ref rw, .ref tr, .ref cl, .ref pt, .ref ru, .ref de, .int 0, .int 0])), (fo, .inr (9, [.ref fa, .ref fb, .ref fd, .int 0]))] sz) := by
  refine Met.ofW (cc := cX11_unfold) (maxL := 2) (ret := (some .int)) (by decide) rfl ?_
  intro p e s m args below meth c s₁ B hml hv
  obtain ⟨rfl, hsz, hP, hK, hN, hD0⟩ := hv
  have hx := B.exec
  have hb := B.bytes
  have hr := B.returns
  have hts := atoms_spec (ws := wd_X11_unfold) B.pre
  have hown : s.vm.findClass RX11 = some m.cls := findClass_of_methodNamed B.named
  have hlocks := B.notSynchronized
  subst hsz
  have hD := hD0.self (sz := s.heap.size)
  generalize hAe : va_A [(x, .inr (11, [.ref mo, .ref sm, .ref sc, .ref fo, .ref sf, .ref bu, .ref po, .ref te, .ref pa, .ref rw, .ref tr, .ref cl, .ref pt, .ref ru, .ref de, .int 0, .int 0])), (fo, .inr (9, [.ref fa, .ref fb, .ref fd, .int 0]))] s.heap.size = A at hD ⊢
  have hA : ∀ q : Nat, s.heap.size ≤ q → A q := fun q h => by rw [← hAe]; exact Or.inr h
  have hS : va_S A s.heap s.heap [] := va_S.rf
  have hiX11 : ∀ w ∈ wsX110, w ∈ wd_X11_unfold := mb_X11_unfold_1
  have hl := lv_entry ([.ref x, .int g1]) (n := 2) (Nat.le_of_ble_eq_true rfl)
  rw [lg_entry_eq]
  generalize (lg_sl ([.ref x, .int g1]) ++ List.replicate (2 - (lg_sl ([.ref x, .int g1])).length) Slot.unset).toArray = ls at hl ⊢
  have hl : lv_has ls 2 [(0, .ref x), (1, .int g1)] := hl
  refine lv_aload_n hx hb dX11_unfold_0 rfl (lv_at hl 0 rfl) ?_
  refine va_get (D := D) (ci := 11) (v := .ref fo) (C := RX11) (T := TX11) (N := 17) hx hb hts hiX11 hown hK hP 0 rfl rfl 3 (by decide) (hts (.fieldLink RX11 27 "DynamicLogicProver" "formulas" "LDynamicLogicProver$Shelf;") (mo_X11_unfold 0 rfl)) (fun _ h9 => h9) rfl dX11_unfold_1 ?_
  refine lv_iload_n hx hb dX11_unfold_4 rfl (lv_at hl 1 rfl) ?_
  refine kc_Vi (As := [.int g1]) (rest := []) (wr := [(x, .inr (11, [.ref mo, .ref sm, .ref sc, .ref fo, .ref sf, .ref bu, .ref po, .ref te, .ref pa, .ref rw, .ref tr, .ref cl, .ref pt, .ref ru, .ref de, .int 0, .int 0]))]) ⟨hx, hb, hml, hown, hts⟩ (ct_X9_has0 l D fo fa fb fd g1 _ ) (cwV 1 hts (kg_V (mo_X11_unfold 1 rfl) (mo_X11_unfold 2 rfl) (mo_X11_unfold 3 rfl) (mo_X11_unfold 4 rfl) (goodIn_sub mb_X11_unfold_0 gw_X9_has0)) rfl rfl rfl ⟨rfl, hd_X9_has⟩ ⟨Nat.le_of_ble_eq_true rfl, Nat.le_of_ble_eq_true rfl⟩) (RX9, TX9, 4) 9 1 rfl rfl rfl hK hN hP hD hS hA [1] [0] [] rfl rfl (by decide) (by decide) (by decide) rfl rfl hl.1 rfl (Nat.le_of_ble_eq_true rfl) dX11_unfold_5 ⟨Nat.le_of_ble_eq_true rfl, Nat.le_of_ble_eq_true rfl⟩ (fun r_1 u_2 H locs w_3 hP hD hK1 hS => ?_)
  have hP : va_P D vwCl [(x, .inr (11, [.ref mo, .ref sm, .ref sc, .ref fo, .ref sf, .ref bu, .ref po, .ref te, .ref pa, .ref rw, .ref tr, .ref cl, .ref pt, .ref ru, .ref de, .int 0, .int 0])), (fo, .inr (9, [.ref fa, .ref fb, .ref fd, .int 0]))] H := hP
  have hD : va_D A [(x, .inr (11, [.ref mo, .ref sm, .ref sc, .ref fo, .ref sf, .ref bu, .ref po, .ref te, .ref pa, .ref rw, .ref tr, .ref cl, .ref pt, .ref ru, .ref de, .int 0, .int 0])), (fo, .inr (9, [.ref fa, .ref fb, .ref fd, .int 0]))] := hD
  have w_3 : r_1 = 0 := w_3
  subst w_3
  refine lv_if_eq (tgt := 30) hx hb dX11_unfold_8 (by decide) (fun c_4 => ?_) (fun c_4 => ?_)
  · refine lv_iconst (v := (-1)) hx hb dX11_unfold_30 (by decide) ?_
    have hP9 := hP.sub (ws' := []) [] rfl
    have hD9 := hD.sub (ws' := []) [] (by decide) rfl
    have hK9 := hK.sub (tys' := []) [] rfl
    exact W.iret (v := (-1)) hx hb hr (fun tZ htZ hW => ⟨⟨(-1), (), rfl, rfl, by rw [htZ]; exact hP9, va_K.moved hW.alike hK9, hD9⟩, hS.F htZ⟩) hS.2.2 dX11_unfold_31
  · exact absurd c_4 (by decide)
theorem dX11_unroll_0 : decode cX11_unroll 0 = .ok (.aload_n 0, 1) := by decide +kernel
theorem dX11_unroll_1 : decode cX11_unroll 1 = .ok (.getfield 27, 3) := by decide +kernel
theorem dX11_unroll_4 : decode cX11_unroll 4 = .ok (.iload_n 1, 1) := by decide +kernel
theorem dX11_unroll_5 : decode cX11_unroll 5 = .ok (.invokevirtual 196, 3) := by decide +kernel
theorem dX11_unroll_8 : decode cX11_unroll 8 = .ok (.ifCond .ne 5, 3) := by decide +kernel
theorem dX11_unroll_11 : decode cX11_unroll 11 = .ok (.iconst (-1), 1) := by decide +kernel
theorem dX11_unroll_12 : decode cX11_unroll 12 = .ok (.ireturn, 1) := by decide +kernel
theorem dX11_unroll_13 : decode cX11_unroll 13 = .ok (.iload_n 2, 1) := by decide +kernel
theorem dX11_unroll_14 : decode cX11_unroll 14 = .ok (.ifCond .lt 8, 3) := by decide +kernel
theorem dX11_unroll_17 : decode cX11_unroll 17 = .ok (.iload_n 2, 1) := by decide +kernel
theorem dX11_unroll_18 : decode cX11_unroll 18 = .ok (.iconst 3, 1) := by decide +kernel
theorem dX11_unroll_19 : decode cX11_unroll 19 = .ok (.if_icmp .le 6, 3) := by decide +kernel
theorem dX11_unroll_22 : decode cX11_unroll 22 = .ok (.bipush (-2), 2) := by decide +kernel
theorem dX11_unroll_24 : decode cX11_unroll 24 = .ok (.ireturn, 1) := by decide +kernel
theorem dX11_unroll_25 : decode cX11_unroll 25 = .ok (.aload_n 0, 1) := by decide +kernel
theorem dX11_unroll_26 : decode cX11_unroll 26 = .ok (.aload_n 0, 1) := by decide +kernel
theorem dX11_unroll_27 : decode cX11_unroll 27 = .ok (.getfield 66, 3) := by decide +kernel
theorem dX11_unroll_30 : decode cX11_unroll 30 = .ok (.aload_n 0, 1) := by decide +kernel
theorem dX11_unroll_31 : decode cX11_unroll 31 = .ok (.iload_n 1, 1) := by decide +kernel
theorem dX11_unroll_32 : decode cX11_unroll 32 = .ok (.invokevirtual 200, 3) := by decide +kernel
theorem dX11_unroll_35 : decode cX11_unroll 35 = .ok (.iload_n 2, 1) := by decide +kernel
theorem dX11_unroll_36 : decode cX11_unroll 36 = .ok (.invokevirtual 288, 3) := by decide +kernel
theorem dX11_unroll_39 : decode cX11_unroll 39 = .ok (.invokevirtual 187, 3) := by decide +kernel
theorem dX11_unroll_42 : decode cX11_unroll 42 = .ok (.ireturn, 1) := by decide +kernel
def wo_X11_unroll : List Cond := [.fieldLink RX11 27 "DynamicLogicProver" "formulas" "LDynamicLogicProver$Shelf;", .methodLink RX11 196 yX9_has, .instanceMethod yX9_has, .selects RX9 yX9_has yX9_has, .initialized RX9]
def wd_X11_unroll : List Cond := .code yX11_unroll cX11_unroll 3 (some .int) :: (wo_X11_unroll ++ (wd_X9_has0 ++ (wsX110 ++ ([] : List Cond))))
theorem mo_X11_unroll {w : Cond} (i : Nat) (h : wo_X11_unroll[i]? = some w) : w ∈ wd_X11_unroll := List.mem_cons_of_mem _ (List.mem_append_left _ (List.mem_of_getElem? h))
theorem mb_X11_unroll_0 : ∀ w ∈ wd_X9_has0, w ∈ wd_X11_unroll := fun w h => List.mem_cons_of_mem _ (List.mem_append_right _ (List.mem_append_left _ h))
theorem mb_X11_unroll_1 : ∀ w ∈ wsX110, w ∈ wd_X11_unroll := fun w h => List.mem_cons_of_mem _ (List.mem_append_right _ (List.mem_append_right _ (List.mem_append_left _ h)))
theorem hd_X11_unroll : yX11_unroll.cls ≠ "java/lang/invoke/MethodHandle" ∧ yX11_unroll.cls ≠ "java/lang/invoke/VarHandle" ∧ (parseMethodDescriptor yX11_unroll.desc).map (fun d => d.parameters.length) = some 2 := by decide +kernel
set_option maxRecDepth 20000 in
theorem gw_X11_unroll : wd_X11_unroll.all goodWord = true := by decide +kernel
abbrev qc_X11_unroll (D : va_G) (x : Nat) (mo : Nat) (sm : Nat) (sc : Nat) (fo : Nat) (sf : Nat) (bu : Nat) (po : Nat) (te : Nat) (pa : Nat) (rw : Nat) (tr : Nat) (cl : Nat) (pt : Nat) (ru : Nat) (de : Nat) (fa : Nat) (fb : Nat) (fd : Nat) (g1 : Int32) (g2 : Int32) (A : Nat → Prop) : Array Value → State → Outcome → State → Prop := va_Qi (fun (r : Int32) (uZ : Unit) => r = (-1)) (fun uZ tZ => kc_pos D A [] [] tZ) A
set_option maxHeartbeats 4000000 in
set_option maxRecDepth 100000 in
theorem ct_X11_unroll (l : Launch) (D : va_G) (x : Nat) (mo : Nat) (sm : Nat) (sc : Nat) (fo : Nat) (sf : Nat) (bu : Nat) (po : Nat) (te : Nat) (pa : Nat) (rw : Nat) (tr : Nat) (cl : Nat) (pt : Nat) (ru : Nat) (de : Nat) (fa : Nat) (fb : Nat) (fd : Nat) (g1 : Int32) (g2 : Int32) (sz : Nat)  : Met l yX11_unroll wd_X11_unroll ({ frames := 1, cells := 0, slots := 0, locals := 21 }) (va_Pc [.ref x, .int g1, .int g2] (kc_pre D [] [(x, .inr (11, [.ref mo, .ref sm, .ref sc, .ref fo, .ref sf, .ref bu, .ref po, .ref te, .ref pa, .ref rw, .ref tr, .ref cl, .ref pt, .ref ru, .ref de, .int 0, .int 0])), (fo, .inr (9, [.ref fa, .ref fb, .ref fd, .int 0]))] sz)) (qc_X11_unroll D x mo sm sc fo sf bu po te pa rw tr cl pt ru de fa fb fd g1 g2 (va_A [(x, .inr (11, [.ref mo, .ref sm, .ref sc, .ref fo, .ref sf, .ref bu, .ref po, .ref te, .ref pa, .ref rw, .ref tr, .ref cl, .ref pt, .ref ru, .ref de, .int 0, .int 0])), (fo, .inr (9, [.ref fa, .ref fb, .ref fd, .int 0]))] sz)) 0 0 (va_A [(x, .inr (11, [.ref mo, .ref sm, .ref sc, .ref fo, .ref sf, .ref bu, .ref po, .ref te, .ref pa, .ref rw, .ref tr, .ref cl, .ref pt, .ref ru, .ref de, .int 0, .int 0])), (fo, .inr (9, [.ref fa, .ref fb, .ref fd, .int 0]))] sz) := by
  refine Met.ofW (cc := cX11_unroll) (maxL := 3) (ret := (some .int)) (by decide) rfl ?_
  intro p e s m args below meth c s₁ B hml hv
  obtain ⟨rfl, hsz, hP, hK, hN, hD0⟩ := hv
  have hx := B.exec
  have hb := B.bytes
  have hr := B.returns
  have hts := atoms_spec (ws := wd_X11_unroll) B.pre
  have hown : s.vm.findClass RX11 = some m.cls := findClass_of_methodNamed B.named
  have hlocks := B.notSynchronized
  subst hsz
  have hD := hD0.self (sz := s.heap.size)
  generalize hAe : va_A [(x, .inr (11, [.ref mo, .ref sm, .ref sc, .ref fo, .ref sf, .ref bu, .ref po, .ref te, .ref pa, .ref rw, .ref tr, .ref cl, .ref pt, .ref ru, .ref de, .int 0, .int 0])), (fo, .inr (9, [.ref fa, .ref fb, .ref fd, .int 0]))] s.heap.size = A at hD ⊢
  have hA : ∀ q : Nat, s.heap.size ≤ q → A q := fun q h => by rw [← hAe]; exact Or.inr h
  have hS : va_S A s.heap s.heap [] := va_S.rf
  have hiX11 : ∀ w ∈ wsX110, w ∈ wd_X11_unroll := mb_X11_unroll_1
  have hl := lv_entry ([.ref x, .int g1, .int g2]) (n := 3) (Nat.le_of_ble_eq_true rfl)
  rw [lg_entry_eq]
  generalize (lg_sl ([.ref x, .int g1, .int g2]) ++ List.replicate (3 - (lg_sl ([.ref x, .int g1, .int g2])).length) Slot.unset).toArray = ls at hl ⊢
  have hl : lv_has ls 3 [(0, .ref x), (1, .int g1), (2, .int g2)] := hl
  refine lv_aload_n hx hb dX11_unroll_0 rfl (lv_at hl 0 rfl) ?_
  refine va_get (D := D) (ci := 11) (v := .ref fo) (C := RX11) (T := TX11) (N := 17) hx hb hts hiX11 hown hK hP 0 rfl rfl 3 (by decide) (hts (.fieldLink RX11 27 "DynamicLogicProver" "formulas" "LDynamicLogicProver$Shelf;") (mo_X11_unroll 0 rfl)) (fun _ h9 => h9) rfl dX11_unroll_1 ?_
  refine lv_iload_n hx hb dX11_unroll_4 rfl (lv_at hl 1 rfl) ?_
  refine kc_Vi (As := [.int g1]) (rest := []) (wr := [(x, .inr (11, [.ref mo, .ref sm, .ref sc, .ref fo, .ref sf, .ref bu, .ref po, .ref te, .ref pa, .ref rw, .ref tr, .ref cl, .ref pt, .ref ru, .ref de, .int 0, .int 0]))]) ⟨hx, hb, hml, hown, hts⟩ (ct_X9_has0 l D fo fa fb fd g1 _ ) (cwV 1 hts (kg_V (mo_X11_unroll 1 rfl) (mo_X11_unroll 2 rfl) (mo_X11_unroll 3 rfl) (mo_X11_unroll 4 rfl) (goodIn_sub mb_X11_unroll_0 gw_X9_has0)) rfl rfl rfl ⟨rfl, hd_X9_has⟩ ⟨Nat.le_of_ble_eq_true rfl, Nat.le_of_ble_eq_true rfl⟩) (RX9, TX9, 4) 9 1 rfl rfl rfl hK hN hP hD hS hA [1] [0] [] rfl rfl (by decide) (by decide) (by decide) rfl rfl hl.1 rfl (Nat.le_of_ble_eq_true rfl) dX11_unroll_5 ⟨Nat.le_of_ble_eq_true rfl, Nat.le_of_ble_eq_true rfl⟩ (fun r_1 u_2 H locs w_3 hP hD hK1 hS => ?_)
  have hP : va_P D vwCl [(x, .inr (11, [.ref mo, .ref sm, .ref sc, .ref fo, .ref sf, .ref bu, .ref po, .ref te, .ref pa, .ref rw, .ref tr, .ref cl, .ref pt, .ref ru, .ref de, .int 0, .int 0])), (fo, .inr (9, [.ref fa, .ref fb, .ref fd, .int 0]))] H := hP
  have hD : va_D A [(x, .inr (11, [.ref mo, .ref sm, .ref sc, .ref fo, .ref sf, .ref bu, .ref po, .ref te, .ref pa, .ref rw, .ref tr, .ref cl, .ref pt, .ref ru, .ref de, .int 0, .int 0])), (fo, .inr (9, [.ref fa, .ref fb, .ref fd, .int 0]))] := hD
  have w_3 : r_1 = 0 := w_3
  subst w_3
  refine lv_if_ne (tgt := 13) hx hb dX11_unroll_8 (by decide) (fun c_4 => ?_) (fun c_4 => ?_)
  · exact absurd c_4 (by decide)
  · refine lv_iconst (v := (-1)) hx hb dX11_unroll_11 (by decide) ?_
    have hP9 := hP.sub (ws' := []) [] rfl
    have hD9 := hD.sub (ws' := []) [] (by decide) rfl
    have hK9 := hK.sub (tys' := []) [] rfl
    exact W.iret (v := (-1)) hx hb hr (fun tZ htZ hW => ⟨⟨(-1), (), rfl, rfl, by rw [htZ]; exact hP9, va_K.moved hW.alike hK9, hD9⟩, hS.F htZ⟩) hS.2.2 dX11_unroll_12
theorem dX11_counterModels_0 : decode cX11_counterModels 0 = .ok (.aload_n 0, 1) := by decide +kernel
theorem dX11_counterModels_1 : decode cX11_counterModels 1 = .ok (.getfield 27, 3) := by decide +kernel
theorem dX11_counterModels_4 : decode cX11_counterModels 4 = .ok (.iload_n 1, 1) := by decide +kernel
theorem dX11_counterModels_5 : decode cX11_counterModels 5 = .ok (.invokevirtual 196, 3) := by decide +kernel
theorem dX11_counterModels_8 : decode cX11_counterModels 8 = .ok (.ifCond .ne 5, 3) := by decide +kernel
theorem dX11_counterModels_11 : decode cX11_counterModels 11 = .ok (.iconst (-1), 1) := by decide +kernel
theorem dX11_counterModels_12 : decode cX11_counterModels 12 = .ok (.ireturn, 1) := by decide +kernel
theorem dX11_counterModels_13 : decode cX11_counterModels 13 = .ok (.iload_n 2, 1) := by decide +kernel
theorem dX11_counterModels_14 : decode cX11_counterModels 14 = .ok (.iload_n 3, 1) := by decide +kernel
theorem dX11_counterModels_15 : decode cX11_counterModels 15 = .ok (.iload 4, 2) := by decide +kernel
theorem dX11_counterModels_17 : decode cX11_counterModels 17 = .ok (.invokestatic 151, 3) := by decide +kernel
theorem dX11_counterModels_20 : decode cX11_counterModels 20 = .ok (.istore 5, 2) := by decide +kernel
theorem dX11_counterModels_22 : decode cX11_counterModels 22 = .ok (.iload 5, 2) := by decide +kernel
theorem dX11_counterModels_24 : decode cX11_counterModels 24 = .ok (.iconst (-1), 1) := by decide +kernel
theorem dX11_counterModels_25 : decode cX11_counterModels 25 = .ok (.if_icmp .ne 6, 3) := by decide +kernel
theorem dX11_counterModels_28 : decode cX11_counterModels 28 = .ok (.bipush (-2), 2) := by decide +kernel
theorem dX11_counterModels_30 : decode cX11_counterModels 30 = .ok (.ireturn, 1) := by decide +kernel
theorem dX11_counterModels_31 : decode cX11_counterModels 31 = .ok (.aload_n 0, 1) := by decide +kernel
theorem dX11_counterModels_32 : decode cX11_counterModels 32 = .ok (.iload_n 1, 1) := by decide +kernel
theorem dX11_counterModels_33 : decode cX11_counterModels 33 = .ok (.invokevirtual 200, 3) := by decide +kernel
theorem dX11_counterModels_36 : decode cX11_counterModels 36 = .ok (.istore 6, 2) := by decide +kernel
theorem dX11_counterModels_38 : decode cX11_counterModels 38 = .ok (.iconst 0, 1) := by decide +kernel
theorem dX11_counterModels_39 : decode cX11_counterModels 39 = .ok (.istore 7, 2) := by decide +kernel
theorem dX11_counterModels_41 : decode cX11_counterModels 41 = .ok (.iconst 0, 1) := by decide +kernel
theorem dX11_counterModels_42 : decode cX11_counterModels 42 = .ok (.istore 8, 2) := by decide +kernel
theorem dX11_counterModels_44 : decode cX11_counterModels 44 = .ok (.iload 8, 2) := by decide +kernel
theorem dX11_counterModels_46 : decode cX11_counterModels 46 = .ok (.iconst 1, 1) := by decide +kernel
theorem dX11_counterModels_47 : decode cX11_counterModels 47 = .ok (.iload 5, 2) := by decide +kernel
theorem dX11_counterModels_49 : decode cX11_counterModels 49 = .ok (.ishl, 1) := by decide +kernel
theorem dX11_counterModels_50 : decode cX11_counterModels 50 = .ok (.if_icmp .ge 51, 3) := by decide +kernel
theorem dX11_counterModels_53 : decode cX11_counterModels 53 = .ok (.aload_n 0, 1) := by decide +kernel
theorem dX11_counterModels_54 : decode cX11_counterModels 54 = .ok (.getfield 21, 3) := by decide +kernel
theorem dX11_counterModels_57 : decode cX11_counterModels 57 = .ok (.iload_n 2, 1) := by decide +kernel
theorem dX11_counterModels_58 : decode cX11_counterModels 58 = .ok (.iload_n 3, 1) := by decide +kernel
theorem dX11_counterModels_59 : decode cX11_counterModels 59 = .ok (.iload 4, 2) := by decide +kernel
theorem dX11_counterModels_61 : decode cX11_counterModels 61 = .ok (.iload 8, 2) := by decide +kernel
theorem dX11_counterModels_63 : decode cX11_counterModels 63 = .ok (.invokevirtual 155, 3) := by decide +kernel
theorem dX11_counterModels_66 : decode cX11_counterModels 66 = .ok (.aload_n 0, 1) := by decide +kernel
theorem dX11_counterModels_67 : decode cX11_counterModels 67 = .ok (.getfield 73, 3) := by decide +kernel
theorem dX11_counterModels_70 : decode cX11_counterModels 70 = .ok (.aload_n 0, 1) := by decide +kernel
theorem dX11_counterModels_71 : decode cX11_counterModels 71 = .ok (.getfield 21, 3) := by decide +kernel
theorem dX11_counterModels_74 : decode cX11_counterModels 74 = .ok (.invokevirtual 226, 3) := by decide +kernel
theorem dX11_counterModels_77 : decode cX11_counterModels 77 = .ok (.iload 7, 2) := by decide +kernel
theorem dX11_counterModels_79 : decode cX11_counterModels 79 = .ok (.iconst 1, 1) := by decide +kernel
theorem dX11_counterModels_80 : decode cX11_counterModels 80 = .ok (.aload_n 0, 1) := by decide +kernel
theorem dX11_counterModels_81 : decode cX11_counterModels 81 = .ok (.getfield 73, 3) := by decide +kernel
theorem dX11_counterModels_84 : decode cX11_counterModels 84 = .ok (.iload 6, 2) := by decide +kernel
theorem dX11_counterModels_86 : decode cX11_counterModels 86 = .ok (.invokevirtual 276, 3) := by decide +kernel
theorem dX11_counterModels_89 : decode cX11_counterModels 89 = .ok (.iconst 1, 1) := by decide +kernel
theorem dX11_counterModels_90 : decode cX11_counterModels 90 = .ok (.iand, 1) := by decide +kernel
theorem dX11_counterModels_91 : decode cX11_counterModels 91 = .ok (.isub, 1) := by decide +kernel
theorem dX11_counterModels_92 : decode cX11_counterModels 92 = .ok (.iadd, 1) := by decide +kernel
theorem dX11_counterModels_93 : decode cX11_counterModels 93 = .ok (.istore 7, 2) := by decide +kernel
theorem dX11_counterModels_95 : decode cX11_counterModels 95 = .ok (.iinc 8 1, 3) := by decide +kernel
theorem dX11_counterModels_98 : decode cX11_counterModels 98 = .ok (.goto (-54), 3) := by decide +kernel
theorem dX11_counterModels_101 : decode cX11_counterModels 101 = .ok (.iload 7, 2) := by decide +kernel
theorem dX11_counterModels_103 : decode cX11_counterModels 103 = .ok (.ireturn, 1) := by decide +kernel
def wo_X11_counterModels : List Cond := [.fieldLink RX11 27 "DynamicLogicProver" "formulas" "LDynamicLogicProver$Shelf;", .methodLink RX11 196 yX9_has, .instanceMethod yX9_has, .selects RX9 yX9_has yX9_has, .initialized RX9]
def wd_X11_counterModels : List Cond := .code yX11_counterModels cX11_counterModels 9 (some .int) :: (wo_X11_counterModels ++ (wd_X9_has0 ++ (wsX110 ++ ([] : List Cond))))
theorem mo_X11_counterModels {w : Cond} (i : Nat) (h : wo_X11_counterModels[i]? = some w) : w ∈ wd_X11_counterModels := List.mem_cons_of_mem _ (List.mem_append_left _ (List.mem_of_getElem? h))
theorem mb_X11_counterModels_0 : ∀ w ∈ wd_X9_has0, w ∈ wd_X11_counterModels := fun w h => List.mem_cons_of_mem _ (List.mem_append_right _ (List.mem_append_left _ h))
theorem mb_X11_counterModels_1 : ∀ w ∈ wsX110, w ∈ wd_X11_counterModels := fun w h => List.mem_cons_of_mem _ (List.mem_append_right _ (List.mem_append_right _ (List.mem_append_left _ h)))
theorem hd_X11_counterModels : yX11_counterModels.cls ≠ "java/lang/invoke/MethodHandle" ∧ yX11_counterModels.cls ≠ "java/lang/invoke/VarHandle" ∧ (parseMethodDescriptor yX11_counterModels.desc).map (fun d => d.parameters.length) = some 4 := by decide +kernel
set_option maxRecDepth 20000 in
theorem gw_X11_counterModels : wd_X11_counterModels.all goodWord = true := by decide +kernel
abbrev qc_X11_counterModels (D : va_G) (x : Nat) (mo : Nat) (sm : Nat) (sc : Nat) (fo : Nat) (sf : Nat) (bu : Nat) (po : Nat) (te : Nat) (pa : Nat) (rw : Nat) (tr : Nat) (cl : Nat) (pt : Nat) (ru : Nat) (de : Nat) (fa : Nat) (fb : Nat) (fd : Nat) (g1 : Int32) (g2 : Int32) (g3 : Int32) (g4 : Int32) (A : Nat → Prop) : Array Value → State → Outcome → State → Prop := va_Qi (fun (r : Int32) (uZ : Unit) => r = (-1)) (fun uZ tZ => kc_pos D A [] [] tZ) A
set_option maxHeartbeats 4000000 in
set_option maxRecDepth 100000 in
theorem ct_X11_counterModels (l : Launch) (D : va_G) (x : Nat) (mo : Nat) (sm : Nat) (sc : Nat) (fo : Nat) (sf : Nat) (bu : Nat) (po : Nat) (te : Nat) (pa : Nat) (rw : Nat) (tr : Nat) (cl : Nat) (pt : Nat) (ru : Nat) (de : Nat) (fa : Nat) (fb : Nat) (fd : Nat) (g1 : Int32) (g2 : Int32) (g3 : Int32) (g4 : Int32) (sz : Nat)  : Met l yX11_counterModels wd_X11_counterModels ({ frames := 1, cells := 0, slots := 0, locals := 21 }) (va_Pc [.ref x, .int g1, .int g2, .int g3, .int g4] (kc_pre D [] [(x, .inr (11, [.ref mo, .ref sm, .ref sc, .ref fo, .ref sf, .ref bu, .ref po, .ref te, .ref pa, .ref rw, .ref tr, .ref cl, .ref pt, .ref ru, .ref de, .int 0, .int 0])), (fo, .inr (9, [.ref fa, .ref fb, .ref fd, .int 0]))] sz)) (qc_X11_counterModels D x mo sm sc fo sf bu po te pa rw tr cl pt ru de fa fb fd g1 g2 g3 g4 (va_A [(x, .inr (11, [.ref mo, .ref sm, .ref sc, .ref fo, .ref sf, .ref bu, .ref po, .ref te, .ref pa, .ref rw, .ref tr, .ref cl, .ref pt, .ref ru, .ref de, .int 0, .int 0])), (fo, .inr (9, [.ref fa, .ref fb, .ref fd, .int 0]))] sz)) 0 0 (va_A [(x, .inr (11, [.ref mo, .ref sm, .ref sc, .ref fo, .ref sf, .ref bu, .ref po, .ref te, .ref pa, .ref rw, .ref tr, .ref cl, .ref pt, .ref ru, .ref de, .int 0, .int 0])), (fo, .inr (9, [.ref fa, .ref fb, .ref fd, .int 0]))] sz) := by
  refine Met.ofW (cc := cX11_counterModels) (maxL := 9) (ret := (some .int)) (by decide) rfl ?_
  intro p e s m args below meth c s₁ B hml hv
  obtain ⟨rfl, hsz, hP, hK, hN, hD0⟩ := hv
  have hx := B.exec
  have hb := B.bytes
  have hr := B.returns
  have hts := atoms_spec (ws := wd_X11_counterModels) B.pre
  have hown : s.vm.findClass RX11 = some m.cls := findClass_of_methodNamed B.named
  have hlocks := B.notSynchronized
  subst hsz
  have hD := hD0.self (sz := s.heap.size)
  generalize hAe : va_A [(x, .inr (11, [.ref mo, .ref sm, .ref sc, .ref fo, .ref sf, .ref bu, .ref po, .ref te, .ref pa, .ref rw, .ref tr, .ref cl, .ref pt, .ref ru, .ref de, .int 0, .int 0])), (fo, .inr (9, [.ref fa, .ref fb, .ref fd, .int 0]))] s.heap.size = A at hD ⊢
  have hA : ∀ q : Nat, s.heap.size ≤ q → A q := fun q h => by rw [← hAe]; exact Or.inr h
  have hS : va_S A s.heap s.heap [] := va_S.rf
  have hiX11 : ∀ w ∈ wsX110, w ∈ wd_X11_counterModels := mb_X11_counterModels_1
  have hl := lv_entry ([.ref x, .int g1, .int g2, .int g3, .int g4]) (n := 9) (Nat.le_of_ble_eq_true rfl)
  rw [lg_entry_eq]
  generalize (lg_sl ([.ref x, .int g1, .int g2, .int g3, .int g4]) ++ List.replicate (9 - (lg_sl ([.ref x, .int g1, .int g2, .int g3, .int g4])).length) Slot.unset).toArray = ls at hl ⊢
  have hl : lv_has ls 9 [(0, .ref x), (1, .int g1), (2, .int g2), (3, .int g3), (4, .int g4)] := hl
  refine lv_aload_n hx hb dX11_counterModels_0 rfl (lv_at hl 0 rfl) ?_
  refine va_get (D := D) (ci := 11) (v := .ref fo) (C := RX11) (T := TX11) (N := 17) hx hb hts hiX11 hown hK hP 0 rfl rfl 3 (by decide) (hts (.fieldLink RX11 27 "DynamicLogicProver" "formulas" "LDynamicLogicProver$Shelf;") (mo_X11_counterModels 0 rfl)) (fun _ h9 => h9) rfl dX11_counterModels_1 ?_
  refine lv_iload_n hx hb dX11_counterModels_4 rfl (lv_at hl 1 rfl) ?_
  refine kc_Vi (As := [.int g1]) (rest := []) (wr := [(x, .inr (11, [.ref mo, .ref sm, .ref sc, .ref fo, .ref sf, .ref bu, .ref po, .ref te, .ref pa, .ref rw, .ref tr, .ref cl, .ref pt, .ref ru, .ref de, .int 0, .int 0]))]) ⟨hx, hb, hml, hown, hts⟩ (ct_X9_has0 l D fo fa fb fd g1 _ ) (cwV 1 hts (kg_V (mo_X11_counterModels 1 rfl) (mo_X11_counterModels 2 rfl) (mo_X11_counterModels 3 rfl) (mo_X11_counterModels 4 rfl) (goodIn_sub mb_X11_counterModels_0 gw_X9_has0)) rfl rfl rfl ⟨rfl, hd_X9_has⟩ ⟨Nat.le_of_ble_eq_true rfl, Nat.le_of_ble_eq_true rfl⟩) (RX9, TX9, 4) 9 1 rfl rfl rfl hK hN hP hD hS hA [1] [0] [] rfl rfl (by decide) (by decide) (by decide) rfl rfl hl.1 rfl (Nat.le_of_ble_eq_true rfl) dX11_counterModels_5 ⟨Nat.le_of_ble_eq_true rfl, Nat.le_of_ble_eq_true rfl⟩ (fun r_1 u_2 H locs w_3 hP hD hK1 hS => ?_)
  have hP : va_P D vwCl [(x, .inr (11, [.ref mo, .ref sm, .ref sc, .ref fo, .ref sf, .ref bu, .ref po, .ref te, .ref pa, .ref rw, .ref tr, .ref cl, .ref pt, .ref ru, .ref de, .int 0, .int 0])), (fo, .inr (9, [.ref fa, .ref fb, .ref fd, .int 0]))] H := hP
  have hD : va_D A [(x, .inr (11, [.ref mo, .ref sm, .ref sc, .ref fo, .ref sf, .ref bu, .ref po, .ref te, .ref pa, .ref rw, .ref tr, .ref cl, .ref pt, .ref ru, .ref de, .int 0, .int 0])), (fo, .inr (9, [.ref fa, .ref fb, .ref fd, .int 0]))] := hD
  have w_3 : r_1 = 0 := w_3
  subst w_3
  refine lv_if_ne (tgt := 13) hx hb dX11_counterModels_8 (by decide) (fun c_4 => ?_) (fun c_4 => ?_)
  · exact absurd c_4 (by decide)
  · refine lv_iconst (v := (-1)) hx hb dX11_counterModels_11 (by decide) ?_
    have hP9 := hP.sub (ws' := []) [] rfl
    have hD9 := hD.sub (ws' := []) [] (by decide) rfl
    have hK9 := hK.sub (tys' := []) [] rfl
    exact W.iret (v := (-1)) hx hb hr (fun tZ htZ hW => ⟨⟨(-1), (), rfl, rfl, by rw [htZ]; exact hP9, va_K.moved hW.alike hK9, hD9⟩, hS.F htZ⟩) hS.2.2 dX11_counterModels_12
theorem dX11_firstCounterModel_0 : decode cX11_firstCounterModel 0 = .ok (.aload_n 0, 1) := by decide +kernel
theorem dX11_firstCounterModel_1 : decode cX11_firstCounterModel 1 = .ok (.getfield 27, 3) := by decide +kernel
theorem dX11_firstCounterModel_4 : decode cX11_firstCounterModel 4 = .ok (.iload_n 1, 1) := by decide +kernel
theorem dX11_firstCounterModel_5 : decode cX11_firstCounterModel 5 = .ok (.invokevirtual 196, 3) := by decide +kernel
theorem dX11_firstCounterModel_8 : decode cX11_firstCounterModel 8 = .ok (.ifCond .ne 5, 3) := by decide +kernel
theorem dX11_firstCounterModel_11 : decode cX11_firstCounterModel 11 = .ok (.iconst (-1), 1) := by decide +kernel
theorem dX11_firstCounterModel_12 : decode cX11_firstCounterModel 12 = .ok (.ireturn, 1) := by decide +kernel
theorem dX11_firstCounterModel_13 : decode cX11_firstCounterModel 13 = .ok (.iload_n 2, 1) := by decide +kernel
theorem dX11_firstCounterModel_14 : decode cX11_firstCounterModel 14 = .ok (.iload_n 3, 1) := by decide +kernel
theorem dX11_firstCounterModel_15 : decode cX11_firstCounterModel 15 = .ok (.iload 4, 2) := by decide +kernel
theorem dX11_firstCounterModel_17 : decode cX11_firstCounterModel 17 = .ok (.invokestatic 151, 3) := by decide +kernel
theorem dX11_firstCounterModel_20 : decode cX11_firstCounterModel 20 = .ok (.istore 5, 2) := by decide +kernel
theorem dX11_firstCounterModel_22 : decode cX11_firstCounterModel 22 = .ok (.iload 5, 2) := by decide +kernel
theorem dX11_firstCounterModel_24 : decode cX11_firstCounterModel 24 = .ok (.iconst (-1), 1) := by decide +kernel
theorem dX11_firstCounterModel_25 : decode cX11_firstCounterModel 25 = .ok (.if_icmp .ne 6, 3) := by decide +kernel
theorem dX11_firstCounterModel_28 : decode cX11_firstCounterModel 28 = .ok (.bipush (-2), 2) := by decide +kernel
theorem dX11_firstCounterModel_30 : decode cX11_firstCounterModel 30 = .ok (.ireturn, 1) := by decide +kernel
theorem dX11_firstCounterModel_31 : decode cX11_firstCounterModel 31 = .ok (.aload_n 0, 1) := by decide +kernel
theorem dX11_firstCounterModel_32 : decode cX11_firstCounterModel 32 = .ok (.iload_n 1, 1) := by decide +kernel
theorem dX11_firstCounterModel_33 : decode cX11_firstCounterModel 33 = .ok (.invokevirtual 200, 3) := by decide +kernel
theorem dX11_firstCounterModel_36 : decode cX11_firstCounterModel 36 = .ok (.istore 6, 2) := by decide +kernel
theorem dX11_firstCounterModel_38 : decode cX11_firstCounterModel 38 = .ok (.iconst 0, 1) := by decide +kernel
theorem dX11_firstCounterModel_39 : decode cX11_firstCounterModel 39 = .ok (.istore 7, 2) := by decide +kernel
theorem dX11_firstCounterModel_41 : decode cX11_firstCounterModel 41 = .ok (.iload 7, 2) := by decide +kernel
theorem dX11_firstCounterModel_43 : decode cX11_firstCounterModel 43 = .ok (.iconst 1, 1) := by decide +kernel
theorem dX11_firstCounterModel_44 : decode cX11_firstCounterModel 44 = .ok (.iload 5, 2) := by decide +kernel
theorem dX11_firstCounterModel_46 : decode cX11_firstCounterModel 46 = .ok (.ishl, 1) := by decide +kernel
theorem dX11_firstCounterModel_47 : decode cX11_firstCounterModel 47 = .ok (.if_icmp .ge 50, 3) := by decide +kernel
theorem dX11_firstCounterModel_50 : decode cX11_firstCounterModel 50 = .ok (.aload_n 0, 1) := by decide +kernel
theorem dX11_firstCounterModel_51 : decode cX11_firstCounterModel 51 = .ok (.getfield 21, 3) := by decide +kernel
theorem dX11_firstCounterModel_54 : decode cX11_firstCounterModel 54 = .ok (.iload_n 2, 1) := by decide +kernel
theorem dX11_firstCounterModel_55 : decode cX11_firstCounterModel 55 = .ok (.iload_n 3, 1) := by decide +kernel
theorem dX11_firstCounterModel_56 : decode cX11_firstCounterModel 56 = .ok (.iload 4, 2) := by decide +kernel
theorem dX11_firstCounterModel_58 : decode cX11_firstCounterModel 58 = .ok (.iload 7, 2) := by decide +kernel
theorem dX11_firstCounterModel_60 : decode cX11_firstCounterModel 60 = .ok (.invokevirtual 155, 3) := by decide +kernel
theorem dX11_firstCounterModel_63 : decode cX11_firstCounterModel 63 = .ok (.aload_n 0, 1) := by decide +kernel
theorem dX11_firstCounterModel_64 : decode cX11_firstCounterModel 64 = .ok (.getfield 73, 3) := by decide +kernel
theorem dX11_firstCounterModel_67 : decode cX11_firstCounterModel 67 = .ok (.aload_n 0, 1) := by decide +kernel
theorem dX11_firstCounterModel_68 : decode cX11_firstCounterModel 68 = .ok (.getfield 21, 3) := by decide +kernel
theorem dX11_firstCounterModel_71 : decode cX11_firstCounterModel 71 = .ok (.invokevirtual 226, 3) := by decide +kernel
theorem dX11_firstCounterModel_74 : decode cX11_firstCounterModel 74 = .ok (.aload_n 0, 1) := by decide +kernel
theorem dX11_firstCounterModel_75 : decode cX11_firstCounterModel 75 = .ok (.getfield 73, 3) := by decide +kernel
theorem dX11_firstCounterModel_78 : decode cX11_firstCounterModel 78 = .ok (.iload 6, 2) := by decide +kernel
theorem dX11_firstCounterModel_80 : decode cX11_firstCounterModel 80 = .ok (.invokevirtual 276, 3) := by decide +kernel
theorem dX11_firstCounterModel_83 : decode cX11_firstCounterModel 83 = .ok (.iconst 1, 1) := by decide +kernel
theorem dX11_firstCounterModel_84 : decode cX11_firstCounterModel 84 = .ok (.iand, 1) := by decide +kernel
theorem dX11_firstCounterModel_85 : decode cX11_firstCounterModel 85 = .ok (.ifCond .ne 6, 3) := by decide +kernel
theorem dX11_firstCounterModel_88 : decode cX11_firstCounterModel 88 = .ok (.iload 7, 2) := by decide +kernel
theorem dX11_firstCounterModel_90 : decode cX11_firstCounterModel 90 = .ok (.ireturn, 1) := by decide +kernel
theorem dX11_firstCounterModel_91 : decode cX11_firstCounterModel 91 = .ok (.iinc 7 1, 3) := by decide +kernel
theorem dX11_firstCounterModel_94 : decode cX11_firstCounterModel 94 = .ok (.goto (-53), 3) := by decide +kernel
theorem dX11_firstCounterModel_97 : decode cX11_firstCounterModel 97 = .ok (.bipush (-5), 2) := by decide +kernel
theorem dX11_firstCounterModel_99 : decode cX11_firstCounterModel 99 = .ok (.ireturn, 1) := by decide +kernel
def wo_X11_firstCounterModel : List Cond := [.fieldLink RX11 27 "DynamicLogicProver" "formulas" "LDynamicLogicProver$Shelf;", .methodLink RX11 196 yX9_has, .instanceMethod yX9_has, .selects RX9 yX9_has yX9_has, .initialized RX9]
def wd_X11_firstCounterModel : List Cond := .code yX11_firstCounterModel cX11_firstCounterModel 8 (some .int) :: (wo_X11_firstCounterModel ++ (wd_X9_has0 ++ (wsX110 ++ ([] : List Cond))))
theorem mo_X11_firstCounterModel {w : Cond} (i : Nat) (h : wo_X11_firstCounterModel[i]? = some w) : w ∈ wd_X11_firstCounterModel := List.mem_cons_of_mem _ (List.mem_append_left _ (List.mem_of_getElem? h))
theorem mb_X11_firstCounterModel_0 : ∀ w ∈ wd_X9_has0, w ∈ wd_X11_firstCounterModel := fun w h => List.mem_cons_of_mem _ (List.mem_append_right _ (List.mem_append_left _ h))
theorem mb_X11_firstCounterModel_1 : ∀ w ∈ wsX110, w ∈ wd_X11_firstCounterModel := fun w h => List.mem_cons_of_mem _ (List.mem_append_right _ (List.mem_append_right _ (List.mem_append_left _ h)))
theorem hd_X11_firstCounterModel : yX11_firstCounterModel.cls ≠ "java/lang/invoke/MethodHandle" ∧ yX11_firstCounterModel.cls ≠ "java/lang/invoke/VarHandle" ∧ (parseMethodDescriptor yX11_firstCounterModel.desc).map (fun d => d.parameters.length) = some 4 := by decide +kernel
set_option maxRecDepth 20000 in
theorem gw_X11_firstCounterModel : wd_X11_firstCounterModel.all goodWord = true := by decide +kernel
abbrev qc_X11_firstCounterModel (D : va_G) (x : Nat) (mo : Nat) (sm : Nat) (sc : Nat) (fo : Nat) (sf : Nat) (bu : Nat) (po : Nat) (te : Nat) (pa : Nat) (rw : Nat) (tr : Nat) (cl : Nat) (pt : Nat) (ru : Nat) (de : Nat) (fa : Nat) (fb : Nat) (fd : Nat) (g1 : Int32) (g2 : Int32) (g3 : Int32) (g4 : Int32) (A : Nat → Prop) : Array Value → State → Outcome → State → Prop := va_Qi (fun (r : Int32) (uZ : Unit) => r = (-1)) (fun uZ tZ => kc_pos D A [] [] tZ) A
set_option maxHeartbeats 4000000 in
set_option maxRecDepth 100000 in
theorem ct_X11_firstCounterModel (l : Launch) (D : va_G) (x : Nat) (mo : Nat) (sm : Nat) (sc : Nat) (fo : Nat) (sf : Nat) (bu : Nat) (po : Nat) (te : Nat) (pa : Nat) (rw : Nat) (tr : Nat) (cl : Nat) (pt : Nat) (ru : Nat) (de : Nat) (fa : Nat) (fb : Nat) (fd : Nat) (g1 : Int32) (g2 : Int32) (g3 : Int32) (g4 : Int32) (sz : Nat)  : Met l yX11_firstCounterModel wd_X11_firstCounterModel ({ frames := 1, cells := 0, slots := 0, locals := 21 }) (va_Pc [.ref x, .int g1, .int g2, .int g3, .int g4] (kc_pre D [] [(x, .inr (11, [.ref mo, .ref sm, .ref sc, .ref fo, .ref sf, .ref bu, .ref po, .ref te, .ref pa, .ref rw, .ref tr, .ref cl, .ref pt, .ref ru, .ref de, .int 0, .int 0])), (fo, .inr (9, [.ref fa, .ref fb, .ref fd, .int 0]))] sz)) (qc_X11_firstCounterModel D x mo sm sc fo sf bu po te pa rw tr cl pt ru de fa fb fd g1 g2 g3 g4 (va_A [(x, .inr (11, [.ref mo, .ref sm, .ref sc, .ref fo, .ref sf, .ref bu, .ref po, .ref te, .ref pa, .ref rw, .ref tr, .ref cl, .ref pt, .ref ru, .ref de, .int 0, .int 0])), (fo, .inr (9, [.ref fa, .ref fb, .ref fd, .int 0]))] sz)) 0 0 (va_A [(x, .inr (11, [.ref mo, .ref sm, .ref sc, .ref fo, .ref sf, .ref bu, .ref po, .ref te, .ref pa, .ref rw, .ref tr, .ref cl, .ref pt, .ref ru, .ref de, .int 0, .int 0])), (fo, .inr (9, [.ref fa, .ref fb, .ref fd, .int 0]))] sz) := by
  refine Met.ofW (cc := cX11_firstCounterModel) (maxL := 8) (ret := (some .int)) (by decide) rfl ?_
  intro p e s m args below meth c s₁ B hml hv
  obtain ⟨rfl, hsz, hP, hK, hN, hD0⟩ := hv
  have hx := B.exec
  have hb := B.bytes
  have hr := B.returns
  have hts := atoms_spec (ws := wd_X11_firstCounterModel) B.pre
  have hown : s.vm.findClass RX11 = some m.cls := findClass_of_methodNamed B.named
  have hlocks := B.notSynchronized
  subst hsz
  have hD := hD0.self (sz := s.heap.size)
  generalize hAe : va_A [(x, .inr (11, [.ref mo, .ref sm, .ref sc, .ref fo, .ref sf, .ref bu, .ref po, .ref te, .ref pa, .ref rw, .ref tr, .ref cl, .ref pt, .ref ru, .ref de, .int 0, .int 0])), (fo, .inr (9, [.ref fa, .ref fb, .ref fd, .int 0]))] s.heap.size = A at hD ⊢
  have hA : ∀ q : Nat, s.heap.size ≤ q → A q := fun q h => by rw [← hAe]; exact Or.inr h
  have hS : va_S A s.heap s.heap [] := va_S.rf
  have hiX11 : ∀ w ∈ wsX110, w ∈ wd_X11_firstCounterModel := mb_X11_firstCounterModel_1
  have hl := lv_entry ([.ref x, .int g1, .int g2, .int g3, .int g4]) (n := 8) (Nat.le_of_ble_eq_true rfl)
  rw [lg_entry_eq]
  generalize (lg_sl ([.ref x, .int g1, .int g2, .int g3, .int g4]) ++ List.replicate (8 - (lg_sl ([.ref x, .int g1, .int g2, .int g3, .int g4])).length) Slot.unset).toArray = ls at hl ⊢
  have hl : lv_has ls 8 [(0, .ref x), (1, .int g1), (2, .int g2), (3, .int g3), (4, .int g4)] := hl
  refine lv_aload_n hx hb dX11_firstCounterModel_0 rfl (lv_at hl 0 rfl) ?_
  refine va_get (D := D) (ci := 11) (v := .ref fo) (C := RX11) (T := TX11) (N := 17) hx hb hts hiX11 hown hK hP 0 rfl rfl 3 (by decide) (hts (.fieldLink RX11 27 "DynamicLogicProver" "formulas" "LDynamicLogicProver$Shelf;") (mo_X11_firstCounterModel 0 rfl)) (fun _ h9 => h9) rfl dX11_firstCounterModel_1 ?_
  refine lv_iload_n hx hb dX11_firstCounterModel_4 rfl (lv_at hl 1 rfl) ?_
  refine kc_Vi (As := [.int g1]) (rest := []) (wr := [(x, .inr (11, [.ref mo, .ref sm, .ref sc, .ref fo, .ref sf, .ref bu, .ref po, .ref te, .ref pa, .ref rw, .ref tr, .ref cl, .ref pt, .ref ru, .ref de, .int 0, .int 0]))]) ⟨hx, hb, hml, hown, hts⟩ (ct_X9_has0 l D fo fa fb fd g1 _ ) (cwV 1 hts (kg_V (mo_X11_firstCounterModel 1 rfl) (mo_X11_firstCounterModel 2 rfl) (mo_X11_firstCounterModel 3 rfl) (mo_X11_firstCounterModel 4 rfl) (goodIn_sub mb_X11_firstCounterModel_0 gw_X9_has0)) rfl rfl rfl ⟨rfl, hd_X9_has⟩ ⟨Nat.le_of_ble_eq_true rfl, Nat.le_of_ble_eq_true rfl⟩) (RX9, TX9, 4) 9 1 rfl rfl rfl hK hN hP hD hS hA [1] [0] [] rfl rfl (by decide) (by decide) (by decide) rfl rfl hl.1 rfl (Nat.le_of_ble_eq_true rfl) dX11_firstCounterModel_5 ⟨Nat.le_of_ble_eq_true rfl, Nat.le_of_ble_eq_true rfl⟩ (fun r_1 u_2 H locs w_3 hP hD hK1 hS => ?_)
  have hP : va_P D vwCl [(x, .inr (11, [.ref mo, .ref sm, .ref sc, .ref fo, .ref sf, .ref bu, .ref po, .ref te, .ref pa, .ref rw, .ref tr, .ref cl, .ref pt, .ref ru, .ref de, .int 0, .int 0])), (fo, .inr (9, [.ref fa, .ref fb, .ref fd, .int 0]))] H := hP
  have hD : va_D A [(x, .inr (11, [.ref mo, .ref sm, .ref sc, .ref fo, .ref sf, .ref bu, .ref po, .ref te, .ref pa, .ref rw, .ref tr, .ref cl, .ref pt, .ref ru, .ref de, .int 0, .int 0])), (fo, .inr (9, [.ref fa, .ref fb, .ref fd, .int 0]))] := hD
  have w_3 : r_1 = 0 := w_3
  subst w_3
  refine lv_if_ne (tgt := 13) hx hb dX11_firstCounterModel_8 (by decide) (fun c_4 => ?_) (fun c_4 => ?_)
  · exact absurd c_4 (by decide)
  · refine lv_iconst (v := (-1)) hx hb dX11_firstCounterModel_11 (by decide) ?_
    have hP9 := hP.sub (ws' := []) [] rfl
    have hD9 := hD.sub (ws' := []) [] (by decide) rfl
    have hK9 := hK.sub (tys' := []) [] rfl
    exact W.iret (v := (-1)) hx hb hr (fun tZ htZ hW => ⟨⟨(-1), (), rfl, rfl, by rw [htZ]; exact hP9, va_K.moved hW.alike hK9, hD9⟩, hS.F htZ⟩) hS.2.2 dX11_firstCounterModel_12
theorem dX11_isValid_0 : decode cX11_isValid 0 = .ok (.aload_n 0, 1) := by decide +kernel
theorem dX11_isValid_1 : decode cX11_isValid 1 = .ok (.getfield 27, 3) := by decide +kernel
theorem dX11_isValid_4 : decode cX11_isValid 4 = .ok (.iload_n 1, 1) := by decide +kernel
theorem dX11_isValid_5 : decode cX11_isValid 5 = .ok (.invokevirtual 196, 3) := by decide +kernel
theorem dX11_isValid_8 : decode cX11_isValid 8 = .ok (.ifCond .ne 5, 3) := by decide +kernel
theorem dX11_isValid_11 : decode cX11_isValid 11 = .ok (.iconst (-1), 1) := by decide +kernel
theorem dX11_isValid_12 : decode cX11_isValid 12 = .ok (.ireturn, 1) := by decide +kernel
theorem dX11_isValid_13 : decode cX11_isValid 13 = .ok (.aload_n 0, 1) := by decide +kernel
theorem dX11_isValid_14 : decode cX11_isValid 14 = .ok (.iload_n 1, 1) := by decide +kernel
theorem dX11_isValid_15 : decode cX11_isValid 15 = .ok (.invokevirtual 200, 3) := by decide +kernel
theorem dX11_isValid_18 : decode cX11_isValid 18 = .ok (.istore_n 2, 1) := by decide +kernel
theorem dX11_isValid_19 : decode cX11_isValid 19 = .ok (.aload_n 0, 1) := by decide +kernel
theorem dX11_isValid_20 : decode cX11_isValid 20 = .ok (.iload_n 2, 1) := by decide +kernel
theorem dX11_isValid_21 : decode cX11_isValid 21 = .ok (.invokevirtual 291, 3) := by decide +kernel
theorem dX11_isValid_24 : decode cX11_isValid 24 = .ok (.ifCond .eq 17, 3) := by decide +kernel
theorem dX11_isValid_27 : decode cX11_isValid 27 = .ok (.aload_n 0, 1) := by decide +kernel
theorem dX11_isValid_28 : decode cX11_isValid 28 = .ok (.getfield 105, 3) := by decide +kernel
theorem dX11_isValid_31 : decode cX11_isValid 31 = .ok (.iload_n 2, 1) := by decide +kernel
theorem dX11_isValid_32 : decode cX11_isValid 32 = .ok (.invokevirtual 294, 3) := by decide +kernel
theorem dX11_isValid_35 : decode cX11_isValid 35 = .ok (.invokestatic 297, 3) := by decide +kernel
theorem dX11_isValid_38 : decode cX11_isValid 38 = .ok (.goto 5, 3) := by decide +kernel
theorem dX11_isValid_41 : decode cX11_isValid 41 = .ok (.bipush (-4), 2) := by decide +kernel
theorem dX11_isValid_43 : decode cX11_isValid 43 = .ok (.ireturn, 1) := by decide +kernel
def wo_X11_isValid : List Cond := [.fieldLink RX11 27 "DynamicLogicProver" "formulas" "LDynamicLogicProver$Shelf;", .methodLink RX11 196 yX9_has, .instanceMethod yX9_has, .selects RX9 yX9_has yX9_has, .initialized RX9]
def wd_X11_isValid : List Cond := .code yX11_isValid cX11_isValid 3 (some .int) :: (wo_X11_isValid ++ (wd_X9_has0 ++ (wsX110 ++ ([] : List Cond))))
theorem mo_X11_isValid {w : Cond} (i : Nat) (h : wo_X11_isValid[i]? = some w) : w ∈ wd_X11_isValid := List.mem_cons_of_mem _ (List.mem_append_left _ (List.mem_of_getElem? h))
theorem mb_X11_isValid_0 : ∀ w ∈ wd_X9_has0, w ∈ wd_X11_isValid := fun w h => List.mem_cons_of_mem _ (List.mem_append_right _ (List.mem_append_left _ h))
theorem mb_X11_isValid_1 : ∀ w ∈ wsX110, w ∈ wd_X11_isValid := fun w h => List.mem_cons_of_mem _ (List.mem_append_right _ (List.mem_append_right _ (List.mem_append_left _ h)))
theorem hd_X11_isValid : yX11_isValid.cls ≠ "java/lang/invoke/MethodHandle" ∧ yX11_isValid.cls ≠ "java/lang/invoke/VarHandle" ∧ (parseMethodDescriptor yX11_isValid.desc).map (fun d => d.parameters.length) = some 1 := by decide +kernel
set_option maxRecDepth 20000 in
theorem gw_X11_isValid : wd_X11_isValid.all goodWord = true := by decide +kernel
abbrev qc_X11_isValid (D : va_G) (x : Nat) (mo : Nat) (sm : Nat) (sc : Nat) (fo : Nat) (sf : Nat) (bu : Nat) (po : Nat) (te : Nat) (pa : Nat) (rw : Nat) (tr : Nat) (cl : Nat) (pt : Nat) (ru : Nat) (de : Nat) (fa : Nat) (fb : Nat) (fd : Nat) (g1 : Int32) (A : Nat → Prop) : Array Value → State → Outcome → State → Prop := va_Qi (fun (r : Int32) (uZ : Unit) => r = (-1)) (fun uZ tZ => kc_pos D A [] [] tZ) A
set_option maxHeartbeats 4000000 in
set_option maxRecDepth 100000 in
theorem ct_X11_isValid (l : Launch) (D : va_G) (x : Nat) (mo : Nat) (sm : Nat) (sc : Nat) (fo : Nat) (sf : Nat) (bu : Nat) (po : Nat) (te : Nat) (pa : Nat) (rw : Nat) (tr : Nat) (cl : Nat) (pt : Nat) (ru : Nat) (de : Nat) (fa : Nat) (fb : Nat) (fd : Nat) (g1 : Int32) (sz : Nat)  : Met l yX11_isValid wd_X11_isValid ({ frames := 1, cells := 0, slots := 0, locals := 21 }) (va_Pc [.ref x, .int g1] (kc_pre D [] [(x, .inr (11, [.ref mo, .ref sm, .ref sc, .ref fo, .ref sf, .ref bu, .ref po, .ref te, .ref pa, .ref rw, .ref tr, .ref cl, .ref pt, .ref ru, .ref de, .int 0, .int 0])), (fo, .inr (9, [.ref fa, .ref fb, .ref fd, .int 0]))] sz)) (qc_X11_isValid D x mo sm sc fo sf bu po te pa rw tr cl pt ru de fa fb fd g1 (va_A [(x, .inr (11, [.ref mo, .ref sm, .ref sc, .ref fo, .ref sf, .ref bu, .ref po, .ref te, .ref pa, .ref rw, .ref tr, .ref cl, .ref pt, .ref ru, .ref de, .int 0, .int 0])), (fo, .inr (9, [.ref fa, .ref fb, .ref fd, .int 0]))] sz)) 0 0 (va_A [(x, .inr (11, [.ref mo, .ref sm, .ref sc, .ref fo, .ref sf, .ref bu, .ref po, .ref te, .ref pa, .ref rw, .ref tr, .ref cl, .ref pt, .ref ru, .ref de, .int 0, .int 0])), (fo, .inr (9, [.ref fa, .ref fb, .ref fd, .int 0]))] sz) := by
  refine Met.ofW (cc := cX11_isValid) (maxL := 3) (ret := (some .int)) (by decide) rfl ?_
  intro p e s m args below meth c s₁ B hml hv
  obtain ⟨rfl, hsz, hP, hK, hN, hD0⟩ := hv
  have hx := B.exec
  have hb := B.bytes
  have hr := B.returns
  have hts := atoms_spec (ws := wd_X11_isValid) B.pre
  have hown : s.vm.findClass RX11 = some m.cls := findClass_of_methodNamed B.named
  have hlocks := B.notSynchronized
  subst hsz
  have hD := hD0.self (sz := s.heap.size)
  generalize hAe : va_A [(x, .inr (11, [.ref mo, .ref sm, .ref sc, .ref fo, .ref sf, .ref bu, .ref po, .ref te, .ref pa, .ref rw, .ref tr, .ref cl, .ref pt, .ref ru, .ref de, .int 0, .int 0])), (fo, .inr (9, [.ref fa, .ref fb, .ref fd, .int 0]))] s.heap.size = A at hD ⊢
  have hA : ∀ q : Nat, s.heap.size ≤ q → A q := fun q h => by rw [← hAe]; exact Or.inr h
  have hS : va_S A s.heap s.heap [] := va_S.rf
  have hiX11 : ∀ w ∈ wsX110, w ∈ wd_X11_isValid := mb_X11_isValid_1
  have hl := lv_entry ([.ref x, .int g1]) (n := 3) (Nat.le_of_ble_eq_true rfl)
  rw [lg_entry_eq]
  generalize (lg_sl ([.ref x, .int g1]) ++ List.replicate (3 - (lg_sl ([.ref x, .int g1])).length) Slot.unset).toArray = ls at hl ⊢
  have hl : lv_has ls 3 [(0, .ref x), (1, .int g1)] := hl
  refine lv_aload_n hx hb dX11_isValid_0 rfl (lv_at hl 0 rfl) ?_
  refine va_get (D := D) (ci := 11) (v := .ref fo) (C := RX11) (T := TX11) (N := 17) hx hb hts hiX11 hown hK hP 0 rfl rfl 3 (by decide) (hts (.fieldLink RX11 27 "DynamicLogicProver" "formulas" "LDynamicLogicProver$Shelf;") (mo_X11_isValid 0 rfl)) (fun _ h9 => h9) rfl dX11_isValid_1 ?_
  refine lv_iload_n hx hb dX11_isValid_4 rfl (lv_at hl 1 rfl) ?_
  refine kc_Vi (As := [.int g1]) (rest := []) (wr := [(x, .inr (11, [.ref mo, .ref sm, .ref sc, .ref fo, .ref sf, .ref bu, .ref po, .ref te, .ref pa, .ref rw, .ref tr, .ref cl, .ref pt, .ref ru, .ref de, .int 0, .int 0]))]) ⟨hx, hb, hml, hown, hts⟩ (ct_X9_has0 l D fo fa fb fd g1 _ ) (cwV 1 hts (kg_V (mo_X11_isValid 1 rfl) (mo_X11_isValid 2 rfl) (mo_X11_isValid 3 rfl) (mo_X11_isValid 4 rfl) (goodIn_sub mb_X11_isValid_0 gw_X9_has0)) rfl rfl rfl ⟨rfl, hd_X9_has⟩ ⟨Nat.le_of_ble_eq_true rfl, Nat.le_of_ble_eq_true rfl⟩) (RX9, TX9, 4) 9 1 rfl rfl rfl hK hN hP hD hS hA [1] [0] [] rfl rfl (by decide) (by decide) (by decide) rfl rfl hl.1 rfl (Nat.le_of_ble_eq_true rfl) dX11_isValid_5 ⟨Nat.le_of_ble_eq_true rfl, Nat.le_of_ble_eq_true rfl⟩ (fun r_1 u_2 H locs w_3 hP hD hK1 hS => ?_)
  have hP : va_P D vwCl [(x, .inr (11, [.ref mo, .ref sm, .ref sc, .ref fo, .ref sf, .ref bu, .ref po, .ref te, .ref pa, .ref rw, .ref tr, .ref cl, .ref pt, .ref ru, .ref de, .int 0, .int 0])), (fo, .inr (9, [.ref fa, .ref fb, .ref fd, .int 0]))] H := hP
  have hD : va_D A [(x, .inr (11, [.ref mo, .ref sm, .ref sc, .ref fo, .ref sf, .ref bu, .ref po, .ref te, .ref pa, .ref rw, .ref tr, .ref cl, .ref pt, .ref ru, .ref de, .int 0, .int 0])), (fo, .inr (9, [.ref fa, .ref fb, .ref fd, .int 0]))] := hD
  have w_3 : r_1 = 0 := w_3
  subst w_3
  refine lv_if_ne (tgt := 13) hx hb dX11_isValid_8 (by decide) (fun c_4 => ?_) (fun c_4 => ?_)
  · exact absurd c_4 (by decide)
  · refine lv_iconst (v := (-1)) hx hb dX11_isValid_11 (by decide) ?_
    have hP9 := hP.sub (ws' := []) [] rfl
    have hD9 := hD.sub (ws' := []) [] (by decide) rfl
    have hK9 := hK.sub (tys' := []) [] rfl
    exact W.iret (v := (-1)) hx hb hr (fun tZ htZ hW => ⟨⟨(-1), (), rfl, rfl, by rw [htZ]; exact hP9, va_K.moved hW.alike hK9, hD9⟩, hS.F htZ⟩) hS.2.2 dX11_isValid_12
theorem dX11_isSatisfiable_0 : decode cX11_isSatisfiable 0 = .ok (.aload_n 0, 1) := by decide +kernel
theorem dX11_isSatisfiable_1 : decode cX11_isSatisfiable 1 = .ok (.getfield 27, 3) := by decide +kernel
theorem dX11_isSatisfiable_4 : decode cX11_isSatisfiable 4 = .ok (.iload_n 1, 1) := by decide +kernel
theorem dX11_isSatisfiable_5 : decode cX11_isSatisfiable 5 = .ok (.invokevirtual 196, 3) := by decide +kernel
theorem dX11_isSatisfiable_8 : decode cX11_isSatisfiable 8 = .ok (.ifCond .ne 5, 3) := by decide +kernel
theorem dX11_isSatisfiable_11 : decode cX11_isSatisfiable 11 = .ok (.iconst (-1), 1) := by decide +kernel
theorem dX11_isSatisfiable_12 : decode cX11_isSatisfiable 12 = .ok (.ireturn, 1) := by decide +kernel
theorem dX11_isSatisfiable_13 : decode cX11_isSatisfiable 13 = .ok (.aload_n 0, 1) := by decide +kernel
theorem dX11_isSatisfiable_14 : decode cX11_isSatisfiable 14 = .ok (.iload_n 1, 1) := by decide +kernel
theorem dX11_isSatisfiable_15 : decode cX11_isSatisfiable 15 = .ok (.invokevirtual 200, 3) := by decide +kernel
theorem dX11_isSatisfiable_18 : decode cX11_isSatisfiable 18 = .ok (.istore_n 2, 1) := by decide +kernel
theorem dX11_isSatisfiable_19 : decode cX11_isSatisfiable 19 = .ok (.aload_n 0, 1) := by decide +kernel
theorem dX11_isSatisfiable_20 : decode cX11_isSatisfiable 20 = .ok (.iload_n 2, 1) := by decide +kernel
theorem dX11_isSatisfiable_21 : decode cX11_isSatisfiable 21 = .ok (.invokevirtual 291, 3) := by decide +kernel
theorem dX11_isSatisfiable_24 : decode cX11_isSatisfiable 24 = .ok (.ifCond .eq 17, 3) := by decide +kernel
theorem dX11_isSatisfiable_27 : decode cX11_isSatisfiable 27 = .ok (.aload_n 0, 1) := by decide +kernel
theorem dX11_isSatisfiable_28 : decode cX11_isSatisfiable 28 = .ok (.getfield 105, 3) := by decide +kernel
theorem dX11_isSatisfiable_31 : decode cX11_isSatisfiable 31 = .ok (.iload_n 2, 1) := by decide +kernel
theorem dX11_isSatisfiable_32 : decode cX11_isSatisfiable 32 = .ok (.invokevirtual 301, 3) := by decide +kernel
theorem dX11_isSatisfiable_35 : decode cX11_isSatisfiable 35 = .ok (.invokestatic 297, 3) := by decide +kernel
theorem dX11_isSatisfiable_38 : decode cX11_isSatisfiable 38 = .ok (.goto 5, 3) := by decide +kernel
theorem dX11_isSatisfiable_41 : decode cX11_isSatisfiable 41 = .ok (.bipush (-4), 2) := by decide +kernel
theorem dX11_isSatisfiable_43 : decode cX11_isSatisfiable 43 = .ok (.ireturn, 1) := by decide +kernel
def wo_X11_isSatisfiable : List Cond := [.fieldLink RX11 27 "DynamicLogicProver" "formulas" "LDynamicLogicProver$Shelf;", .methodLink RX11 196 yX9_has, .instanceMethod yX9_has, .selects RX9 yX9_has yX9_has, .initialized RX9]
def wd_X11_isSatisfiable : List Cond := .code yX11_isSatisfiable cX11_isSatisfiable 3 (some .int) :: (wo_X11_isSatisfiable ++ (wd_X9_has0 ++ (wsX110 ++ ([] : List Cond))))
theorem mo_X11_isSatisfiable {w : Cond} (i : Nat) (h : wo_X11_isSatisfiable[i]? = some w) : w ∈ wd_X11_isSatisfiable := List.mem_cons_of_mem _ (List.mem_append_left _ (List.mem_of_getElem? h))
theorem mb_X11_isSatisfiable_0 : ∀ w ∈ wd_X9_has0, w ∈ wd_X11_isSatisfiable := fun w h => List.mem_cons_of_mem _ (List.mem_append_right _ (List.mem_append_left _ h))
theorem mb_X11_isSatisfiable_1 : ∀ w ∈ wsX110, w ∈ wd_X11_isSatisfiable := fun w h => List.mem_cons_of_mem _ (List.mem_append_right _ (List.mem_append_right _ (List.mem_append_left _ h)))
theorem hd_X11_isSatisfiable : yX11_isSatisfiable.cls ≠ "java/lang/invoke/MethodHandle" ∧ yX11_isSatisfiable.cls ≠ "java/lang/invoke/VarHandle" ∧ (parseMethodDescriptor yX11_isSatisfiable.desc).map (fun d => d.parameters.length) = some 1 := by decide +kernel
set_option maxRecDepth 20000 in
theorem gw_X11_isSatisfiable : wd_X11_isSatisfiable.all goodWord = true := by decide +kernel
abbrev qc_X11_isSatisfiable (D : va_G) (x : Nat) (mo : Nat) (sm : Nat) (sc : Nat) (fo : Nat) (sf : Nat) (bu : Nat) (po : Nat) (te : Nat) (pa : Nat) (rw : Nat) (tr : Nat) (cl : Nat) (pt : Nat) (ru : Nat) (de : Nat) (fa : Nat) (fb : Nat) (fd : Nat) (g1 : Int32) (A : Nat → Prop) : Array Value → State → Outcome → State → Prop := va_Qi (fun (r : Int32) (uZ : Unit) => r = (-1)) (fun uZ tZ => kc_pos D A [] [] tZ) A
set_option maxHeartbeats 4000000 in
set_option maxRecDepth 100000 in
theorem ct_X11_isSatisfiable (l : Launch) (D : va_G) (x : Nat) (mo : Nat) (sm : Nat) (sc : Nat) (fo : Nat) (sf : Nat) (bu : Nat) (po : Nat) (te : Nat) (pa : Nat) (rw : Nat) (tr : Nat) (cl : Nat) (pt : Nat) (ru : Nat) (de : Nat) (fa : Nat) (fb : Nat) (fd : Nat) (g1 : Int32) (sz : Nat)  : Met l yX11_isSatisfiable wd_X11_isSatisfiable ({ frames := 1, cells := 0, slots := 0, locals := 21 }) (va_Pc [.ref x, .int g1] (kc_pre D [] [(x, .inr (11, [.ref mo, .ref sm, .ref sc, .ref fo, .ref sf, .ref bu, .ref po, .ref te, .ref pa, .ref rw, .ref tr, .ref cl, .ref pt, .ref ru, .ref de, .int 0, .int 0])), (fo, .inr (9, [.ref fa, .ref fb, .ref fd, .int 0]))] sz)) (qc_X11_isSatisfiable D x mo sm sc fo sf bu po te pa rw tr cl pt ru de fa fb fd g1 (va_A [(x, .inr (11, [.ref mo, .ref sm, .ref sc, .ref fo, .ref sf, .ref bu, .ref po, .ref te, .ref pa, .ref rw, .ref tr, .ref cl, .ref pt, .ref ru, .ref de, .int 0, .int 0])), (fo, .inr (9, [.ref fa, .ref fb, .ref fd, .int 0]))] sz)) 0 0 (va_A [(x, .inr (11, [.ref mo, .ref sm, .ref sc, .ref fo, .ref sf, .ref bu, .ref po, .ref te, .ref pa, .ref rw, .ref tr, .ref cl, .ref pt, .ref ru, .ref de, .int 0, .int 0])), (fo, .inr (9, [.ref fa, .ref fb, .ref fd, .int 0]))] sz) := by
  refine Met.ofW (cc := cX11_isSatisfiable) (maxL := 3) (ret := (some .int)) (by decide) rfl ?_
  intro p e s m args below meth c s₁ B hml hv
  obtain ⟨rfl, hsz, hP, hK, hN, hD0⟩ := hv
  have hx := B.exec
  have hb := B.bytes
  have hr := B.returns
  have hts := atoms_spec (ws := wd_X11_isSatisfiable) B.pre
  have hown : s.vm.findClass RX11 = some m.cls := findClass_of_methodNamed B.named
  have hlocks := B.notSynchronized
  subst hsz
  have hD := hD0.self (sz := s.heap.size)
  generalize hAe : va_A [(x, .inr (11, [.ref mo, .ref sm, .ref sc, .ref fo, .ref sf, .ref bu, .ref po, .ref te, .ref pa, .ref rw, .ref tr, .ref cl, .ref pt, .ref ru, .ref de, .int 0, .int 0])), (fo, .inr (9, [.ref fa, .ref fb, .ref fd, .int 0]))] s.heap.size = A at hD ⊢
  have hA : ∀ q : Nat, s.heap.size ≤ q → A q := fun q h => by rw [← hAe]; exact Or.inr h
  have hS : va_S A s.heap s.heap [] := va_S.rf
  have hiX11 : ∀ w ∈ wsX110, w ∈ wd_X11_isSatisfiable := mb_X11_isSatisfiable_1
  have hl := lv_entry ([.ref x, .int g1]) (n := 3) (Nat.le_of_ble_eq_true rfl)
  rw [lg_entry_eq]
  generalize (lg_sl ([.ref x, .int g1]) ++ List.replicate (3 - (lg_sl ([.ref x, .int g1])).length) Slot.unset).toArray = ls at hl ⊢
  have hl : lv_has ls 3 [(0, .ref x), (1, .int g1)] := hl
  refine lv_aload_n hx hb dX11_isSatisfiable_0 rfl (lv_at hl 0 rfl) ?_
  refine va_get (D := D) (ci := 11) (v := .ref fo) (C := RX11) (T := TX11) (N := 17) hx hb hts hiX11 hown hK hP 0 rfl rfl 3 (by decide) (hts (.fieldLink RX11 27 "DynamicLogicProver" "formulas" "LDynamicLogicProver$Shelf;") (mo_X11_isSatisfiable 0 rfl)) (fun _ h9 => h9) rfl dX11_isSatisfiable_1 ?_
  refine lv_iload_n hx hb dX11_isSatisfiable_4 rfl (lv_at hl 1 rfl) ?_
  refine kc_Vi (As := [.int g1]) (rest := []) (wr := [(x, .inr (11, [.ref mo, .ref sm, .ref sc, .ref fo, .ref sf, .ref bu, .ref po, .ref te, .ref pa, .ref rw, .ref tr, .ref cl, .ref pt, .ref ru, .ref de, .int 0, .int 0]))]) ⟨hx, hb, hml, hown, hts⟩ (ct_X9_has0 l D fo fa fb fd g1 _ ) (cwV 1 hts (kg_V (mo_X11_isSatisfiable 1 rfl) (mo_X11_isSatisfiable 2 rfl) (mo_X11_isSatisfiable 3 rfl) (mo_X11_isSatisfiable 4 rfl) (goodIn_sub mb_X11_isSatisfiable_0 gw_X9_has0)) rfl rfl rfl ⟨rfl, hd_X9_has⟩ ⟨Nat.le_of_ble_eq_true rfl, Nat.le_of_ble_eq_true rfl⟩) (RX9, TX9, 4) 9 1 rfl rfl rfl hK hN hP hD hS hA [1] [0] [] rfl rfl (by decide) (by decide) (by decide) rfl rfl hl.1 rfl (Nat.le_of_ble_eq_true rfl) dX11_isSatisfiable_5 ⟨Nat.le_of_ble_eq_true rfl, Nat.le_of_ble_eq_true rfl⟩ (fun r_1 u_2 H locs w_3 hP hD hK1 hS => ?_)
  have hP : va_P D vwCl [(x, .inr (11, [.ref mo, .ref sm, .ref sc, .ref fo, .ref sf, .ref bu, .ref po, .ref te, .ref pa, .ref rw, .ref tr, .ref cl, .ref pt, .ref ru, .ref de, .int 0, .int 0])), (fo, .inr (9, [.ref fa, .ref fb, .ref fd, .int 0]))] H := hP
  have hD : va_D A [(x, .inr (11, [.ref mo, .ref sm, .ref sc, .ref fo, .ref sf, .ref bu, .ref po, .ref te, .ref pa, .ref rw, .ref tr, .ref cl, .ref pt, .ref ru, .ref de, .int 0, .int 0])), (fo, .inr (9, [.ref fa, .ref fb, .ref fd, .int 0]))] := hD
  have w_3 : r_1 = 0 := w_3
  subst w_3
  refine lv_if_ne (tgt := 13) hx hb dX11_isSatisfiable_8 (by decide) (fun c_4 => ?_) (fun c_4 => ?_)
  · exact absurd c_4 (by decide)
  · refine lv_iconst (v := (-1)) hx hb dX11_isSatisfiable_11 (by decide) ?_
    have hP9 := hP.sub (ws' := []) [] rfl
    have hD9 := hD.sub (ws' := []) [] (by decide) rfl
    have hK9 := hK.sub (tys' := []) [] rfl
    exact W.iret (v := (-1)) hx hb hr (fun tZ htZ hW => ⟨⟨(-1), (), rfl, rfl, by rw [htZ]; exact hP9, va_K.moved hW.alike hK9, hD9⟩, hS.F htZ⟩) hS.2.2 dX11_isSatisfiable_12
theorem dX11_entails_0 : decode cX11_entails 0 = .ok (.aload_n 0, 1) := by decide +kernel
theorem dX11_entails_1 : decode cX11_entails 1 = .ok (.getfield 27, 3) := by decide +kernel
theorem dX11_entails_4 : decode cX11_entails 4 = .ok (.iload_n 1, 1) := by decide +kernel
theorem dX11_entails_5 : decode cX11_entails 5 = .ok (.invokevirtual 196, 3) := by decide +kernel
theorem dX11_entails_8 : decode cX11_entails 8 = .ok (.ifCond .eq 14, 3) := by decide +kernel
theorem dX11_entails_11 : decode cX11_entails 11 = .ok (.aload_n 0, 1) := by decide +kernel
theorem dX11_entails_12 : decode cX11_entails 12 = .ok (.getfield 27, 3) := by decide +kernel
theorem dX11_entails_15 : decode cX11_entails 15 = .ok (.iload_n 2, 1) := by decide +kernel
theorem dX11_entails_16 : decode cX11_entails 16 = .ok (.invokevirtual 196, 3) := by decide +kernel
theorem dX11_entails_19 : decode cX11_entails 19 = .ok (.ifCond .ne 5, 3) := by decide +kernel
theorem dX11_entails_22 : decode cX11_entails 22 = .ok (.iconst (-1), 1) := by decide +kernel
theorem dX11_entails_23 : decode cX11_entails 23 = .ok (.ireturn, 1) := by decide +kernel
theorem dX11_entails_24 : decode cX11_entails 24 = .ok (.aload_n 0, 1) := by decide +kernel
theorem dX11_entails_25 : decode cX11_entails 25 = .ok (.iload_n 1, 1) := by decide +kernel
theorem dX11_entails_26 : decode cX11_entails 26 = .ok (.invokevirtual 200, 3) := by decide +kernel
theorem dX11_entails_29 : decode cX11_entails 29 = .ok (.istore_n 3, 1) := by decide +kernel
theorem dX11_entails_30 : decode cX11_entails 30 = .ok (.aload_n 0, 1) := by decide +kernel
theorem dX11_entails_31 : decode cX11_entails 31 = .ok (.getfield 44, 3) := by decide +kernel
theorem dX11_entails_34 : decode cX11_entails 34 = .ok (.bipush 45, 2) := by decide +kernel
theorem dX11_entails_36 : decode cX11_entails 36 = .ok (.iload_n 3, 1) := by decide +kernel
theorem dX11_entails_37 : decode cX11_entails 37 = .ok (.aload_n 0, 1) := by decide +kernel
theorem dX11_entails_38 : decode cX11_entails 38 = .ok (.getfield 27, 3) := by decide +kernel
theorem dX11_entails_41 : decode cX11_entails 41 = .ok (.iload_n 2, 1) := by decide +kernel
theorem dX11_entails_42 : decode cX11_entails 42 = .ok (.aload_n 0, 1) := by decide +kernel
theorem dX11_entails_43 : decode cX11_entails 43 = .ok (.getfield 44, 3) := by decide +kernel
theorem dX11_entails_46 : decode cX11_entails 46 = .ok (.invokevirtual 209, 3) := by decide +kernel
theorem dX11_entails_49 : decode cX11_entails 49 = .ok (.invokevirtual 304, 3) := by decide +kernel
theorem dX11_entails_52 : decode cX11_entails 52 = .ok (.istore 4, 2) := by decide +kernel
theorem dX11_entails_54 : decode cX11_entails 54 = .ok (.aload_n 0, 1) := by decide +kernel
theorem dX11_entails_55 : decode cX11_entails 55 = .ok (.iload 4, 2) := by decide +kernel
theorem dX11_entails_57 : decode cX11_entails 57 = .ok (.invokevirtual 291, 3) := by decide +kernel
theorem dX11_entails_60 : decode cX11_entails 60 = .ok (.ifCond .eq 18, 3) := by decide +kernel
theorem dX11_entails_63 : decode cX11_entails 63 = .ok (.aload_n 0, 1) := by decide +kernel
theorem dX11_entails_64 : decode cX11_entails 64 = .ok (.getfield 105, 3) := by decide +kernel
theorem dX11_entails_67 : decode cX11_entails 67 = .ok (.iload 4, 2) := by decide +kernel
theorem dX11_entails_69 : decode cX11_entails 69 = .ok (.invokevirtual 294, 3) := by decide +kernel
theorem dX11_entails_72 : decode cX11_entails 72 = .ok (.invokestatic 297, 3) := by decide +kernel
theorem dX11_entails_75 : decode cX11_entails 75 = .ok (.goto 5, 3) := by decide +kernel
theorem dX11_entails_78 : decode cX11_entails 78 = .ok (.bipush (-4), 2) := by decide +kernel
theorem dX11_entails_80 : decode cX11_entails 80 = .ok (.ireturn, 1) := by decide +kernel
def wo_X11_entails : List Cond := [.fieldLink RX11 27 "DynamicLogicProver" "formulas" "LDynamicLogicProver$Shelf;", .methodLink RX11 196 yX9_has, .instanceMethod yX9_has, .selects RX9 yX9_has yX9_has, .initialized RX9]
def wd_X11_entails : List Cond := .code yX11_entails cX11_entails 5 (some .int) :: (wo_X11_entails ++ (wd_X9_has0 ++ (wsX110 ++ ([] : List Cond))))
theorem mo_X11_entails {w : Cond} (i : Nat) (h : wo_X11_entails[i]? = some w) : w ∈ wd_X11_entails := List.mem_cons_of_mem _ (List.mem_append_left _ (List.mem_of_getElem? h))
theorem mb_X11_entails_0 : ∀ w ∈ wd_X9_has0, w ∈ wd_X11_entails := fun w h => List.mem_cons_of_mem _ (List.mem_append_right _ (List.mem_append_left _ h))
theorem mb_X11_entails_1 : ∀ w ∈ wsX110, w ∈ wd_X11_entails := fun w h => List.mem_cons_of_mem _ (List.mem_append_right _ (List.mem_append_right _ (List.mem_append_left _ h)))
theorem hd_X11_entails : yX11_entails.cls ≠ "java/lang/invoke/MethodHandle" ∧ yX11_entails.cls ≠ "java/lang/invoke/VarHandle" ∧ (parseMethodDescriptor yX11_entails.desc).map (fun d => d.parameters.length) = some 2 := by decide +kernel
set_option maxRecDepth 20000 in
theorem gw_X11_entails : wd_X11_entails.all goodWord = true := by decide +kernel
abbrev qc_X11_entails (D : va_G) (x : Nat) (mo : Nat) (sm : Nat) (sc : Nat) (fo : Nat) (sf : Nat) (bu : Nat) (po : Nat) (te : Nat) (pa : Nat) (rw : Nat) (tr : Nat) (cl : Nat) (pt : Nat) (ru : Nat) (de : Nat) (fa : Nat) (fb : Nat) (fd : Nat) (g1 : Int32) (g2 : Int32) (A : Nat → Prop) : Array Value → State → Outcome → State → Prop := va_Qi (fun (r : Int32) (uZ : Unit) => r = (-1)) (fun uZ tZ => kc_pos D A [] [] tZ) A
set_option maxHeartbeats 4000000 in
set_option maxRecDepth 100000 in
theorem ct_X11_entails (l : Launch) (D : va_G) (x : Nat) (mo : Nat) (sm : Nat) (sc : Nat) (fo : Nat) (sf : Nat) (bu : Nat) (po : Nat) (te : Nat) (pa : Nat) (rw : Nat) (tr : Nat) (cl : Nat) (pt : Nat) (ru : Nat) (de : Nat) (fa : Nat) (fb : Nat) (fd : Nat) (g1 : Int32) (g2 : Int32) (sz : Nat)  : Met l yX11_entails wd_X11_entails ({ frames := 1, cells := 0, slots := 0, locals := 21 }) (va_Pc [.ref x, .int g1, .int g2] (kc_pre D [] [(x, .inr (11, [.ref mo, .ref sm, .ref sc, .ref fo, .ref sf, .ref bu, .ref po, .ref te, .ref pa, .ref rw, .ref tr, .ref cl, .ref pt, .ref ru, .ref de, .int 0, .int 0])), (fo, .inr (9, [.ref fa, .ref fb, .ref fd, .int 0]))] sz)) (qc_X11_entails D x mo sm sc fo sf bu po te pa rw tr cl pt ru de fa fb fd g1 g2 (va_A [(x, .inr (11, [.ref mo, .ref sm, .ref sc, .ref fo, .ref sf, .ref bu, .ref po, .ref te, .ref pa, .ref rw, .ref tr, .ref cl, .ref pt, .ref ru, .ref de, .int 0, .int 0])), (fo, .inr (9, [.ref fa, .ref fb, .ref fd, .int 0]))] sz)) 0 0 (va_A [(x, .inr (11, [.ref mo, .ref sm, .ref sc, .ref fo, .ref sf, .ref bu, .ref po, .ref te, .ref pa, .ref rw, .ref tr, .ref cl, .ref pt, .ref ru, .ref de, .int 0, .int 0])), (fo, .inr (9, [.ref fa, .ref fb, .ref fd, .int 0]))] sz) := by
  refine Met.ofW (cc := cX11_entails) (maxL := 5) (ret := (some .int)) (by decide) rfl ?_
  intro p e s m args below meth c s₁ B hml hv
  obtain ⟨rfl, hsz, hP, hK, hN, hD0⟩ := hv
  have hx := B.exec
  have hb := B.bytes
  have hr := B.returns
  have hts := atoms_spec (ws := wd_X11_entails) B.pre
  have hown : s.vm.findClass RX11 = some m.cls := findClass_of_methodNamed B.named
  have hlocks := B.notSynchronized
  subst hsz
  have hD := hD0.self (sz := s.heap.size)
  generalize hAe : va_A [(x, .inr (11, [.ref mo, .ref sm, .ref sc, .ref fo, .ref sf, .ref bu, .ref po, .ref te, .ref pa, .ref rw, .ref tr, .ref cl, .ref pt, .ref ru, .ref de, .int 0, .int 0])), (fo, .inr (9, [.ref fa, .ref fb, .ref fd, .int 0]))] s.heap.size = A at hD ⊢
  have hA : ∀ q : Nat, s.heap.size ≤ q → A q := fun q h => by rw [← hAe]; exact Or.inr h
  have hS : va_S A s.heap s.heap [] := va_S.rf
  have hiX11 : ∀ w ∈ wsX110, w ∈ wd_X11_entails := mb_X11_entails_1
  have hl := lv_entry ([.ref x, .int g1, .int g2]) (n := 5) (Nat.le_of_ble_eq_true rfl)
  rw [lg_entry_eq]
  generalize (lg_sl ([.ref x, .int g1, .int g2]) ++ List.replicate (5 - (lg_sl ([.ref x, .int g1, .int g2])).length) Slot.unset).toArray = ls at hl ⊢
  have hl : lv_has ls 5 [(0, .ref x), (1, .int g1), (2, .int g2)] := hl
  refine lv_aload_n hx hb dX11_entails_0 rfl (lv_at hl 0 rfl) ?_
  refine va_get (D := D) (ci := 11) (v := .ref fo) (C := RX11) (T := TX11) (N := 17) hx hb hts hiX11 hown hK hP 0 rfl rfl 3 (by decide) (hts (.fieldLink RX11 27 "DynamicLogicProver" "formulas" "LDynamicLogicProver$Shelf;") (mo_X11_entails 0 rfl)) (fun _ h9 => h9) rfl dX11_entails_1 ?_
  refine lv_iload_n hx hb dX11_entails_4 rfl (lv_at hl 1 rfl) ?_
  refine kc_Vi (As := [.int g1]) (rest := []) (wr := [(x, .inr (11, [.ref mo, .ref sm, .ref sc, .ref fo, .ref sf, .ref bu, .ref po, .ref te, .ref pa, .ref rw, .ref tr, .ref cl, .ref pt, .ref ru, .ref de, .int 0, .int 0]))]) ⟨hx, hb, hml, hown, hts⟩ (ct_X9_has0 l D fo fa fb fd g1 _ ) (cwV 1 hts (kg_V (mo_X11_entails 1 rfl) (mo_X11_entails 2 rfl) (mo_X11_entails 3 rfl) (mo_X11_entails 4 rfl) (goodIn_sub mb_X11_entails_0 gw_X9_has0)) rfl rfl rfl ⟨rfl, hd_X9_has⟩ ⟨Nat.le_of_ble_eq_true rfl, Nat.le_of_ble_eq_true rfl⟩) (RX9, TX9, 4) 9 1 rfl rfl rfl hK hN hP hD hS hA [1] [0] [] rfl rfl (by decide) (by decide) (by decide) rfl rfl hl.1 rfl (Nat.le_of_ble_eq_true rfl) dX11_entails_5 ⟨Nat.le_of_ble_eq_true rfl, Nat.le_of_ble_eq_true rfl⟩ (fun r_1 u_2 H locs w_3 hP hD hK1 hS => ?_)
  have hP : va_P D vwCl [(x, .inr (11, [.ref mo, .ref sm, .ref sc, .ref fo, .ref sf, .ref bu, .ref po, .ref te, .ref pa, .ref rw, .ref tr, .ref cl, .ref pt, .ref ru, .ref de, .int 0, .int 0])), (fo, .inr (9, [.ref fa, .ref fb, .ref fd, .int 0]))] H := hP
  have hD : va_D A [(x, .inr (11, [.ref mo, .ref sm, .ref sc, .ref fo, .ref sf, .ref bu, .ref po, .ref te, .ref pa, .ref rw, .ref tr, .ref cl, .ref pt, .ref ru, .ref de, .int 0, .int 0])), (fo, .inr (9, [.ref fa, .ref fb, .ref fd, .int 0]))] := hD
  have w_3 : r_1 = 0 := w_3
  subst w_3
  refine lv_if_eq (tgt := 22) hx hb dX11_entails_8 (by decide) (fun c_4 => ?_) (fun c_4 => ?_)
  · refine lv_iconst (v := (-1)) hx hb dX11_entails_22 (by decide) ?_
    have hP9 := hP.sub (ws' := []) [] rfl
    have hD9 := hD.sub (ws' := []) [] (by decide) rfl
    have hK9 := hK.sub (tys' := []) [] rfl
    exact W.iret (v := (-1)) hx hb hr (fun tZ htZ hW => ⟨⟨(-1), (), rfl, rfl, by rw [htZ]; exact hP9, va_K.moved hW.alike hK9, hD9⟩, hS.F htZ⟩) hS.2.2 dX11_entails_23
  · exact absurd c_4 (by decide)
theorem dX11_runCount_0 : decode cX11_runCount 0 = .ok (.aload_n 0, 1) := by decide +kernel
theorem dX11_runCount_1 : decode cX11_runCount 1 = .ok (.getfield 27, 3) := by decide +kernel
theorem dX11_runCount_4 : decode cX11_runCount 4 = .ok (.iload_n 1, 1) := by decide +kernel
theorem dX11_runCount_5 : decode cX11_runCount 5 = .ok (.invokevirtual 196, 3) := by decide +kernel
theorem dX11_runCount_8 : decode cX11_runCount 8 = .ok (.ifCond .eq 25, 3) := by decide +kernel
theorem dX11_runCount_11 : decode cX11_runCount 11 = .ok (.aload_n 0, 1) := by decide +kernel
theorem dX11_runCount_12 : decode cX11_runCount 12 = .ok (.getfield 12, 3) := by decide +kernel
theorem dX11_runCount_15 : decode cX11_runCount 15 = .ok (.iload_n 2, 1) := by decide +kernel
theorem dX11_runCount_16 : decode cX11_runCount 16 = .ok (.invokevirtual 125, 3) := by decide +kernel
theorem dX11_runCount_19 : decode cX11_runCount 19 = .ok (.ifCond .eq 14, 3) := by decide +kernel
theorem dX11_runCount_22 : decode cX11_runCount 22 = .ok (.aload_n 0, 1) := by decide +kernel
theorem dX11_runCount_23 : decode cX11_runCount 23 = .ok (.getfield 12, 3) := by decide +kernel
theorem dX11_runCount_26 : decode cX11_runCount 26 = .ok (.iload_n 3, 1) := by decide +kernel
theorem dX11_runCount_27 : decode cX11_runCount 27 = .ok (.invokevirtual 125, 3) := by decide +kernel
theorem dX11_runCount_30 : decode cX11_runCount 30 = .ok (.ifCond .ne 7, 3) := by decide +kernel
theorem dX11_runCount_33 : decode cX11_runCount 33 = .ok (.ldc2_w 247, 3) := by decide +kernel
theorem dX11_runCount_36 : decode cX11_runCount 36 = .ok (.lreturn, 1) := by decide +kernel
theorem dX11_runCount_37 : decode cX11_runCount 37 = .ok (.iload 4, 2) := by decide +kernel
theorem dX11_runCount_39 : decode cX11_runCount 39 = .ok (.ifCond .lt 18, 3) := by decide +kernel
theorem dX11_runCount_42 : decode cX11_runCount 42 = .ok (.iload 4, 2) := by decide +kernel
theorem dX11_runCount_44 : decode cX11_runCount 44 = .ok (.bipush 8, 2) := by decide +kernel
theorem dX11_runCount_46 : decode cX11_runCount 46 = .ok (.if_icmp .gt 11, 3) := by decide +kernel
theorem dX11_runCount_49 : decode cX11_runCount 49 = .ok (.aload_n 0, 1) := by decide +kernel
theorem dX11_runCount_50 : decode cX11_runCount 50 = .ok (.iload_n 1, 1) := by decide +kernel
theorem dX11_runCount_51 : decode cX11_runCount 51 = .ok (.invokevirtual 235, 3) := by decide +kernel
theorem dX11_runCount_54 : decode cX11_runCount 54 = .ok (.ifCond .ne 7, 3) := by decide +kernel
theorem dX11_runCount_57 : decode cX11_runCount 57 = .ok (.ldc2_w 247, 3) := by decide +kernel
theorem dX11_runCount_60 : decode cX11_runCount 60 = .ok (.lreturn, 1) := by decide +kernel
theorem dX11_runCount_61 : decode cX11_runCount 61 = .ok (.aload_n 0, 1) := by decide +kernel
theorem dX11_runCount_62 : decode cX11_runCount 62 = .ok (.getfield 96, 3) := by decide +kernel
theorem dX11_runCount_65 : decode cX11_runCount 65 = .ok (.iload_n 2, 1) := by decide +kernel
theorem dX11_runCount_66 : decode cX11_runCount 66 = .ok (.iload_n 3, 1) := by decide +kernel
theorem dX11_runCount_67 : decode cX11_runCount 67 = .ok (.iload 4, 2) := by decide +kernel
theorem dX11_runCount_69 : decode cX11_runCount 69 = .ok (.invokevirtual 249, 3) := by decide +kernel
theorem dX11_runCount_72 : decode cX11_runCount 72 = .ok (.lreturn, 1) := by decide +kernel
def wo_X11_runCount : List Cond := [.fieldLink RX11 27 "DynamicLogicProver" "formulas" "LDynamicLogicProver$Shelf;", .methodLink RX11 196 yX9_has, .instanceMethod yX9_has, .selects RX9 yX9_has yX9_has, .initialized RX9, .constantLong RX11 247 (-9223372036854775808)]
def wd_X11_runCount : List Cond := .code yX11_runCount cX11_runCount 5 (some .long) :: (wo_X11_runCount ++ (wd_X9_has0 ++ (wsX110 ++ ([] : List Cond))))
theorem mo_X11_runCount {w : Cond} (i : Nat) (h : wo_X11_runCount[i]? = some w) : w ∈ wd_X11_runCount := List.mem_cons_of_mem _ (List.mem_append_left _ (List.mem_of_getElem? h))
theorem mb_X11_runCount_0 : ∀ w ∈ wd_X9_has0, w ∈ wd_X11_runCount := fun w h => List.mem_cons_of_mem _ (List.mem_append_right _ (List.mem_append_left _ h))
theorem mb_X11_runCount_1 : ∀ w ∈ wsX110, w ∈ wd_X11_runCount := fun w h => List.mem_cons_of_mem _ (List.mem_append_right _ (List.mem_append_right _ (List.mem_append_left _ h)))
theorem hd_X11_runCount : yX11_runCount.cls ≠ "java/lang/invoke/MethodHandle" ∧ yX11_runCount.cls ≠ "java/lang/invoke/VarHandle" ∧ (parseMethodDescriptor yX11_runCount.desc).map (fun d => d.parameters.length) = some 4 := by decide +kernel
set_option maxRecDepth 20000 in
theorem gw_X11_runCount : wd_X11_runCount.all goodWord = true := by decide +kernel
abbrev qc_X11_runCount (D : va_G) (x : Nat) (mo : Nat) (sm : Nat) (sc : Nat) (fo : Nat) (sf : Nat) (bu : Nat) (po : Nat) (te : Nat) (pa : Nat) (rw : Nat) (tr : Nat) (cl : Nat) (pt : Nat) (ru : Nat) (de : Nat) (fa : Nat) (fb : Nat) (fd : Nat) (g1 : Int32) (g2 : Int32) (g3 : Int32) (g4 : Int32) (A : Nat → Prop) : Array Value → State → Outcome → State → Prop := va_Ql (fun (r : Int64) (uZ : Unit) => r = (-9223372036854775808)) (fun uZ tZ => kc_pos D A [] [] tZ) A
set_option maxHeartbeats 4000000 in
set_option maxRecDepth 100000 in
theorem ct_X11_runCount (l : Launch) (D : va_G) (x : Nat) (mo : Nat) (sm : Nat) (sc : Nat) (fo : Nat) (sf : Nat) (bu : Nat) (po : Nat) (te : Nat) (pa : Nat) (rw : Nat) (tr : Nat) (cl : Nat) (pt : Nat) (ru : Nat) (de : Nat) (fa : Nat) (fb : Nat) (fd : Nat) (g1 : Int32) (g2 : Int32) (g3 : Int32) (g4 : Int32) (sz : Nat)  : Met l yX11_runCount wd_X11_runCount ({ frames := 1, cells := 0, slots := 0, locals := 21 }) (va_Pc [.ref x, .int g1, .int g2, .int g3, .int g4] (kc_pre D [] [(x, .inr (11, [.ref mo, .ref sm, .ref sc, .ref fo, .ref sf, .ref bu, .ref po, .ref te, .ref pa, .ref rw, .ref tr, .ref cl, .ref pt, .ref ru, .ref de, .int 0, .int 0])), (fo, .inr (9, [.ref fa, .ref fb, .ref fd, .int 0]))] sz)) (qc_X11_runCount D x mo sm sc fo sf bu po te pa rw tr cl pt ru de fa fb fd g1 g2 g3 g4 (va_A [(x, .inr (11, [.ref mo, .ref sm, .ref sc, .ref fo, .ref sf, .ref bu, .ref po, .ref te, .ref pa, .ref rw, .ref tr, .ref cl, .ref pt, .ref ru, .ref de, .int 0, .int 0])), (fo, .inr (9, [.ref fa, .ref fb, .ref fd, .int 0]))] sz)) 0 0 (va_A [(x, .inr (11, [.ref mo, .ref sm, .ref sc, .ref fo, .ref sf, .ref bu, .ref po, .ref te, .ref pa, .ref rw, .ref tr, .ref cl, .ref pt, .ref ru, .ref de, .int 0, .int 0])), (fo, .inr (9, [.ref fa, .ref fb, .ref fd, .int 0]))] sz) := by
  refine Met.ofW (cc := cX11_runCount) (maxL := 5) (ret := (some .long)) (by decide) rfl ?_
  intro p e s m args below meth c s₁ B hml hv
  obtain ⟨rfl, hsz, hP, hK, hN, hD0⟩ := hv
  have hx := B.exec
  have hb := B.bytes
  have hr := B.returns
  have hts := atoms_spec (ws := wd_X11_runCount) B.pre
  have hown : s.vm.findClass RX11 = some m.cls := findClass_of_methodNamed B.named
  have hlocks := B.notSynchronized
  subst hsz
  have hD := hD0.self (sz := s.heap.size)
  generalize hAe : va_A [(x, .inr (11, [.ref mo, .ref sm, .ref sc, .ref fo, .ref sf, .ref bu, .ref po, .ref te, .ref pa, .ref rw, .ref tr, .ref cl, .ref pt, .ref ru, .ref de, .int 0, .int 0])), (fo, .inr (9, [.ref fa, .ref fb, .ref fd, .int 0]))] s.heap.size = A at hD ⊢
  have hA : ∀ q : Nat, s.heap.size ≤ q → A q := fun q h => by rw [← hAe]; exact Or.inr h
  have hS : va_S A s.heap s.heap [] := va_S.rf
  have hiX11 : ∀ w ∈ wsX110, w ∈ wd_X11_runCount := mb_X11_runCount_1
  have hl := lv_entry ([.ref x, .int g1, .int g2, .int g3, .int g4]) (n := 5) (Nat.le_of_ble_eq_true rfl)
  rw [lg_entry_eq]
  generalize (lg_sl ([.ref x, .int g1, .int g2, .int g3, .int g4]) ++ List.replicate (5 - (lg_sl ([.ref x, .int g1, .int g2, .int g3, .int g4])).length) Slot.unset).toArray = ls at hl ⊢
  have hl : lv_has ls 5 [(0, .ref x), (1, .int g1), (2, .int g2), (3, .int g3), (4, .int g4)] := hl
  refine lv_aload_n hx hb dX11_runCount_0 rfl (lv_at hl 0 rfl) ?_
  refine va_get (D := D) (ci := 11) (v := .ref fo) (C := RX11) (T := TX11) (N := 17) hx hb hts hiX11 hown hK hP 0 rfl rfl 3 (by decide) (hts (.fieldLink RX11 27 "DynamicLogicProver" "formulas" "LDynamicLogicProver$Shelf;") (mo_X11_runCount 0 rfl)) (fun _ h9 => h9) rfl dX11_runCount_1 ?_
  refine lv_iload_n hx hb dX11_runCount_4 rfl (lv_at hl 1 rfl) ?_
  refine kc_Vi (As := [.int g1]) (rest := []) (wr := [(x, .inr (11, [.ref mo, .ref sm, .ref sc, .ref fo, .ref sf, .ref bu, .ref po, .ref te, .ref pa, .ref rw, .ref tr, .ref cl, .ref pt, .ref ru, .ref de, .int 0, .int 0]))]) ⟨hx, hb, hml, hown, hts⟩ (ct_X9_has0 l D fo fa fb fd g1 _ ) (cwV 1 hts (kg_V (mo_X11_runCount 1 rfl) (mo_X11_runCount 2 rfl) (mo_X11_runCount 3 rfl) (mo_X11_runCount 4 rfl) (goodIn_sub mb_X11_runCount_0 gw_X9_has0)) rfl rfl rfl ⟨rfl, hd_X9_has⟩ ⟨Nat.le_of_ble_eq_true rfl, Nat.le_of_ble_eq_true rfl⟩) (RX9, TX9, 4) 9 1 rfl rfl rfl hK hN hP hD hS hA [1] [0] [] rfl rfl (by decide) (by decide) (by decide) rfl rfl hl.1 rfl (Nat.le_of_ble_eq_true rfl) dX11_runCount_5 ⟨Nat.le_of_ble_eq_true rfl, Nat.le_of_ble_eq_true rfl⟩ (fun r_1 u_2 H locs w_3 hP hD hK1 hS => ?_)
  have hP : va_P D vwCl [(x, .inr (11, [.ref mo, .ref sm, .ref sc, .ref fo, .ref sf, .ref bu, .ref po, .ref te, .ref pa, .ref rw, .ref tr, .ref cl, .ref pt, .ref ru, .ref de, .int 0, .int 0])), (fo, .inr (9, [.ref fa, .ref fb, .ref fd, .int 0]))] H := hP
  have hD : va_D A [(x, .inr (11, [.ref mo, .ref sm, .ref sc, .ref fo, .ref sf, .ref bu, .ref po, .ref te, .ref pa, .ref rw, .ref tr, .ref cl, .ref pt, .ref ru, .ref de, .int 0, .int 0])), (fo, .inr (9, [.ref fa, .ref fb, .ref fd, .int 0]))] := hD
  have w_3 : r_1 = 0 := w_3
  subst w_3
  refine lv_if_eq (tgt := 33) hx hb dX11_runCount_8 (by decide) (fun c_4 => ?_) (fun c_4 => ?_)
  · refine lv_ldc2 hx hb hown (hts (.constantLong RX11 247 (-9223372036854775808)) (mo_X11_runCount 5 rfl)) dX11_runCount_33 ?_
    have hP9 := hP.sub (ws' := []) [] rfl
    have hD9 := hD.sub (ws' := []) [] (by decide) rfl
    have hK9 := hK.sub (tys' := []) [] rfl
    exact W.lret (v := (-9223372036854775808)) hx hb hr (fun tZ htZ hW => ⟨⟨(-9223372036854775808), (), rfl, rfl, by rw [htZ]; exact hP9, va_K.moved hW.alike hK9, hD9⟩, hS.F htZ⟩) hS.2.2 dX11_runCount_36
  · exact absurd c_4 (by decide)
theorem dX11_distinguish_0 : decode cX11_distinguish 0 = .ok (.aload_n 0, 1) := by decide +kernel
theorem dX11_distinguish_1 : decode cX11_distinguish 1 = .ok (.getfield 12, 3) := by decide +kernel
theorem dX11_distinguish_4 : decode cX11_distinguish 4 = .ok (.iload_n 1, 1) := by decide +kernel
theorem dX11_distinguish_5 : decode cX11_distinguish 5 = .ok (.invokevirtual 125, 3) := by decide +kernel
theorem dX11_distinguish_8 : decode cX11_distinguish 8 = .ok (.ifCond .eq 14, 3) := by decide +kernel
theorem dX11_distinguish_11 : decode cX11_distinguish 11 = .ok (.aload_n 0, 1) := by decide +kernel
theorem dX11_distinguish_12 : decode cX11_distinguish 12 = .ok (.getfield 12, 3) := by decide +kernel
theorem dX11_distinguish_15 : decode cX11_distinguish 15 = .ok (.iload_n 2, 1) := by decide +kernel
theorem dX11_distinguish_16 : decode cX11_distinguish 16 = .ok (.invokevirtual 125, 3) := by decide +kernel
theorem dX11_distinguish_19 : decode cX11_distinguish 19 = .ok (.ifCond .ne 5, 3) := by decide +kernel
theorem dX11_distinguish_22 : decode cX11_distinguish 22 = .ok (.iconst (-1), 1) := by decide +kernel
theorem dX11_distinguish_23 : decode cX11_distinguish 23 = .ok (.ireturn, 1) := by decide +kernel
theorem dX11_distinguish_24 : decode cX11_distinguish 24 = .ok (.bipush (-5), 2) := by decide +kernel
theorem dX11_distinguish_26 : decode cX11_distinguish 26 = .ok (.istore_n 3, 1) := by decide +kernel
theorem dX11_distinguish_27 : decode cX11_distinguish 27 = .ok (.iconst 0, 1) := by decide +kernel
theorem dX11_distinguish_28 : decode cX11_distinguish 28 = .ok (.istore 4, 2) := by decide +kernel
theorem dX11_distinguish_30 : decode cX11_distinguish 30 = .ok (.iload 4, 2) := by decide +kernel
theorem dX11_distinguish_32 : decode cX11_distinguish 32 = .ok (.aload_n 0, 1) := by decide +kernel
theorem dX11_distinguish_33 : decode cX11_distinguish 33 = .ok (.getfield 27, 3) := by decide +kernel
theorem dX11_distinguish_36 : decode cX11_distinguish 36 = .ok (.invokevirtual 219, 3) := by decide +kernel
theorem dX11_distinguish_39 : decode cX11_distinguish 39 = .ok (.if_icmp .ge 63, 3) := by decide +kernel
theorem dX11_distinguish_42 : decode cX11_distinguish 42 = .ok (.aload_n 0, 1) := by decide +kernel
theorem dX11_distinguish_43 : decode cX11_distinguish 43 = .ok (.iload 4, 2) := by decide +kernel
theorem dX11_distinguish_45 : decode cX11_distinguish 45 = .ok (.invokevirtual 216, 3) := by decide +kernel
theorem dX11_distinguish_48 : decode cX11_distinguish 48 = .ok (.istore 5, 2) := by decide +kernel
theorem dX11_distinguish_50 : decode cX11_distinguish 50 = .ok (.iload 5, 2) := by decide +kernel
theorem dX11_distinguish_52 : decode cX11_distinguish 52 = .ok (.iload_n 1, 1) := by decide +kernel
theorem dX11_distinguish_53 : decode cX11_distinguish 53 = .ok (.ishr, 1) := by decide +kernel
theorem dX11_distinguish_54 : decode cX11_distinguish 54 = .ok (.iconst 1, 1) := by decide +kernel
theorem dX11_distinguish_55 : decode cX11_distinguish 55 = .ok (.iand, 1) := by decide +kernel
theorem dX11_distinguish_56 : decode cX11_distinguish 56 = .ok (.iload 5, 2) := by decide +kernel
theorem dX11_distinguish_58 : decode cX11_distinguish 58 = .ok (.iload_n 2, 1) := by decide +kernel
theorem dX11_distinguish_59 : decode cX11_distinguish 59 = .ok (.ishr, 1) := by decide +kernel
theorem dX11_distinguish_60 : decode cX11_distinguish 60 = .ok (.iconst 1, 1) := by decide +kernel
theorem dX11_distinguish_61 : decode cX11_distinguish 61 = .ok (.iand, 1) := by decide +kernel
theorem dX11_distinguish_62 : decode cX11_distinguish 62 = .ok (.if_icmp .eq 7, 3) := by decide +kernel
theorem dX11_distinguish_65 : decode cX11_distinguish 65 = .ok (.iconst 1, 1) := by decide +kernel
theorem dX11_distinguish_66 : decode cX11_distinguish 66 = .ok (.goto 4, 3) := by decide +kernel
theorem dX11_distinguish_69 : decode cX11_distinguish 69 = .ok (.iconst 0, 1) := by decide +kernel
theorem dX11_distinguish_70 : decode cX11_distinguish 70 = .ok (.istore 6, 2) := by decide +kernel
theorem dX11_distinguish_72 : decode cX11_distinguish 72 = .ok (.iload 6, 2) := by decide +kernel
theorem dX11_distinguish_74 : decode cX11_distinguish 74 = .ok (.ifCond .eq 22, 3) := by decide +kernel
theorem dX11_distinguish_77 : decode cX11_distinguish 77 = .ok (.iload_n 3, 1) := by decide +kernel
theorem dX11_distinguish_78 : decode cX11_distinguish 78 = .ok (.bipush (-5), 2) := by decide +kernel
theorem dX11_distinguish_80 : decode cX11_distinguish 80 = .ok (.if_icmp .eq 13, 3) := by decide +kernel
theorem dX11_distinguish_83 : decode cX11_distinguish 83 = .ok (.aload_n 0, 1) := by decide +kernel
theorem dX11_distinguish_84 : decode cX11_distinguish 84 = .ok (.iload 4, 2) := by decide +kernel
theorem dX11_distinguish_86 : decode cX11_distinguish 86 = .ok (.iload_n 3, 1) := by decide +kernel
theorem dX11_distinguish_87 : decode cX11_distinguish 87 = .ok (.invokevirtual 220, 3) := by decide +kernel
theorem dX11_distinguish_90 : decode cX11_distinguish 90 = .ok (.ifCond .ne 6, 3) := by decide +kernel
theorem dX11_distinguish_93 : decode cX11_distinguish 93 = .ok (.iload 4, 2) := by decide +kernel
theorem dX11_distinguish_95 : decode cX11_distinguish 95 = .ok (.istore_n 3, 1) := by decide +kernel
theorem dX11_distinguish_96 : decode cX11_distinguish 96 = .ok (.iinc 4 1, 3) := by decide +kernel
theorem dX11_distinguish_99 : decode cX11_distinguish 99 = .ok (.goto (-69), 3) := by decide +kernel
theorem dX11_distinguish_102 : decode cX11_distinguish 102 = .ok (.iload_n 3, 1) := by decide +kernel
theorem dX11_distinguish_103 : decode cX11_distinguish 103 = .ok (.ireturn, 1) := by decide +kernel
def wo_X11_distinguish : List Cond := [.fieldLink RX11 12 "DynamicLogicProver" "model" "LDynamicLogicProver$Model;", .methodLink RX11 125 yX3_has, .instanceMethod yX3_has, .selects RX3 yX3_has yX3_has, .initialized RX3, .fieldLink RX11 27 "DynamicLogicProver" "formulas" "LDynamicLogicProver$Shelf;", .methodLink RX11 219 yX9_size, .instanceMethod yX9_size, .selects RX9 yX9_size yX9_size, .initialized RX9]
def wd_X11_distinguish : List Cond := .code yX11_distinguish cX11_distinguish 7 (some .int) :: (wo_X11_distinguish ++ (wd_X3_has ++ (wd_X9_size ++ (wsX110 ++ ([] : List Cond)))))
theorem mo_X11_distinguish {w : Cond} (i : Nat) (h : wo_X11_distinguish[i]? = some w) : w ∈ wd_X11_distinguish := List.mem_cons_of_mem _ (List.mem_append_left _ (List.mem_of_getElem? h))
theorem mb_X11_distinguish_0 : ∀ w ∈ wd_X3_has, w ∈ wd_X11_distinguish := fun w h => List.mem_cons_of_mem _ (List.mem_append_right _ (List.mem_append_left _ h))
theorem mb_X11_distinguish_1 : ∀ w ∈ wd_X9_size, w ∈ wd_X11_distinguish := fun w h => List.mem_cons_of_mem _ (List.mem_append_right _ (List.mem_append_right _ (List.mem_append_left _ h)))
theorem mb_X11_distinguish_2 : ∀ w ∈ wsX110, w ∈ wd_X11_distinguish := fun w h => List.mem_cons_of_mem _ (List.mem_append_right _ (List.mem_append_right _ (List.mem_append_right _ (List.mem_append_left _ h))))
theorem hd_X11_distinguish : yX11_distinguish.cls ≠ "java/lang/invoke/MethodHandle" ∧ yX11_distinguish.cls ≠ "java/lang/invoke/VarHandle" ∧ (parseMethodDescriptor yX11_distinguish.desc).map (fun d => d.parameters.length) = some 2 := by decide +kernel
set_option maxRecDepth 20000 in
theorem gw_X11_distinguish : wd_X11_distinguish.all goodWord = true := by decide +kernel
abbrev qc_X11_distinguish (D : va_G) (x : Nat) (mo : Nat) (sm : Nat) (sc : Nat) (fo : Nat) (sf : Nat) (bu : Nat) (po : Nat) (te : Nat) (pa : Nat) (rw : Nat) (tr : Nat) (cl : Nat) (pt : Nat) (ru : Nat) (de : Nat) (mt : Nat) (mv : Nat) (fa : Nat) (fb : Nat) (fd : Nat) (w : Int32) (k : Int32) (A : Nat → Prop) : Array Value → State → Outcome → State → Prop := va_Qi (fun (r : Int32) (uZ : Unit) => r = an_distinguish w k) (fun uZ tZ => kc_pos D A [] [] tZ) A
set_option maxHeartbeats 4000000 in
set_option maxRecDepth 100000 in
theorem ct_X11_distinguish (l : Launch) (D : va_G) (x : Nat) (mo : Nat) (sm : Nat) (sc : Nat) (fo : Nat) (sf : Nat) (bu : Nat) (po : Nat) (te : Nat) (pa : Nat) (rw : Nat) (tr : Nat) (cl : Nat) (pt : Nat) (ru : Nat) (de : Nat) (mt : Nat) (mv : Nat) (fa : Nat) (fb : Nat) (fd : Nat) (w : Int32) (k : Int32) (sz : Nat)  : Met l yX11_distinguish wd_X11_distinguish ({ frames := 1, cells := 0, slots := 0, locals := 21 }) (va_Pc [.ref x, .int w, .int k] (kc_pre D [] [(x, .inr (11, [.ref mo, .ref sm, .ref sc, .ref fo, .ref sf, .ref bu, .ref po, .ref te, .ref pa, .ref rw, .ref tr, .ref cl, .ref pt, .ref ru, .ref de, .int 0, .int 0])), (mo, .inr (3, [.ref mt, .ref mv, .int 1])), (fo, .inr (9, [.ref fa, .ref fb, .ref fd, .int 0]))] sz)) (qc_X11_distinguish D x mo sm sc fo sf bu po te pa rw tr cl pt ru de mt mv fa fb fd w k (va_A [(x, .inr (11, [.ref mo, .ref sm, .ref sc, .ref fo, .ref sf, .ref bu, .ref po, .ref te, .ref pa, .ref rw, .ref tr, .ref cl, .ref pt, .ref ru, .ref de, .int 0, .int 0])), (mo, .inr (3, [.ref mt, .ref mv, .int 1])), (fo, .inr (9, [.ref fa, .ref fb, .ref fd, .int 0]))] sz)) 0 0 (va_A [(x, .inr (11, [.ref mo, .ref sm, .ref sc, .ref fo, .ref sf, .ref bu, .ref po, .ref te, .ref pa, .ref rw, .ref tr, .ref cl, .ref pt, .ref ru, .ref de, .int 0, .int 0])), (mo, .inr (3, [.ref mt, .ref mv, .int 1])), (fo, .inr (9, [.ref fa, .ref fb, .ref fd, .int 0]))] sz) := by
  refine Met.ofW (cc := cX11_distinguish) (maxL := 7) (ret := (some .int)) (by decide) rfl ?_
  intro p e s m args below meth c s₁ B hml hv
  obtain ⟨rfl, hsz, hP, hK, hN, hD0⟩ := hv
  have hx := B.exec
  have hb := B.bytes
  have hr := B.returns
  have hts := atoms_spec (ws := wd_X11_distinguish) B.pre
  have hown : s.vm.findClass RX11 = some m.cls := findClass_of_methodNamed B.named
  have hlocks := B.notSynchronized
  subst hsz
  have hD := hD0.self (sz := s.heap.size)
  generalize hAe : va_A [(x, .inr (11, [.ref mo, .ref sm, .ref sc, .ref fo, .ref sf, .ref bu, .ref po, .ref te, .ref pa, .ref rw, .ref tr, .ref cl, .ref pt, .ref ru, .ref de, .int 0, .int 0])), (mo, .inr (3, [.ref mt, .ref mv, .int 1])), (fo, .inr (9, [.ref fa, .ref fb, .ref fd, .int 0]))] s.heap.size = A at hD ⊢
  have hA : ∀ q : Nat, s.heap.size ≤ q → A q := fun q h => by rw [← hAe]; exact Or.inr h
  have hS : va_S A s.heap s.heap [] := va_S.rf
  have hiX11 : ∀ w ∈ wsX110, w ∈ wd_X11_distinguish := mb_X11_distinguish_2
  have hl := lv_entry ([.ref x, .int w, .int k]) (n := 7) (Nat.le_of_ble_eq_true rfl)
  rw [lg_entry_eq]
  generalize (lg_sl ([.ref x, .int w, .int k]) ++ List.replicate (7 - (lg_sl ([.ref x, .int w, .int k])).length) Slot.unset).toArray = ls at hl ⊢
  have hl : lv_has ls 7 [(0, .ref x), (1, .int w), (2, .int k)] := hl
  refine lv_aload_n hx hb dX11_distinguish_0 rfl (lv_at hl 0 rfl) ?_
  refine va_get (D := D) (ci := 11) (v := .ref mo) (C := RX11) (T := TX11) (N := 17) hx hb hts hiX11 hown hK hP 0 rfl rfl 0 (by decide) (hts (.fieldLink RX11 12 "DynamicLogicProver" "model" "LDynamicLogicProver$Model;") (mo_X11_distinguish 0 rfl)) (fun _ h9 => h9) rfl dX11_distinguish_1 ?_
  refine lv_iload_n hx hb dX11_distinguish_4 rfl (lv_at hl 1 rfl) ?_
  refine kc_Vi (As := [.int w]) (rest := []) (wr := [(x, .inr (11, [.ref mo, .ref sm, .ref sc, .ref fo, .ref sf, .ref bu, .ref po, .ref te, .ref pa, .ref rw, .ref tr, .ref cl, .ref pt, .ref ru, .ref de, .int 0, .int 0])), (fo, .inr (9, [.ref fa, .ref fb, .ref fd, .int 0]))]) ⟨hx, hb, hml, hown, hts⟩ (ct_X3_has l D mo mt mv 1 w _ ) (cwV 1 hts (kg_V (mo_X11_distinguish 1 rfl) (mo_X11_distinguish 2 rfl) (mo_X11_distinguish 3 rfl) (mo_X11_distinguish 4 rfl) (goodIn_sub mb_X11_distinguish_0 gw_X3_has)) rfl rfl rfl ⟨rfl, hd_X3_has⟩ ⟨Nat.le_of_ble_eq_true rfl, Nat.le_of_ble_eq_true rfl⟩) (RX3, TX3, 3) 3 1 rfl rfl rfl hK hN hP hD hS hA [1] [0, 2] [] rfl rfl (by decide) (by decide) (by decide) rfl rfl hl.1 rfl (Nat.le_of_ble_eq_true rfl) dX11_distinguish_5 ⟨Nat.le_of_ble_eq_true rfl, Nat.le_of_ble_eq_true rfl⟩ (fun r_1 u_2 H locs w_3 hP hD hK1 hS => ?_)
  have hP : va_P D vwCl [(x, .inr (11, [.ref mo, .ref sm, .ref sc, .ref fo, .ref sf, .ref bu, .ref po, .ref te, .ref pa, .ref rw, .ref tr, .ref cl, .ref pt, .ref ru, .ref de, .int 0, .int 0])), (fo, .inr (9, [.ref fa, .ref fb, .ref fd, .int 0])), (mo, .inr (3, [.ref mt, .ref mv, .int 1]))] H := hP
  have hD : va_D A [(x, .inr (11, [.ref mo, .ref sm, .ref sc, .ref fo, .ref sf, .ref bu, .ref po, .ref te, .ref pa, .ref rw, .ref tr, .ref cl, .ref pt, .ref ru, .ref de, .int 0, .int 0])), (fo, .inr (9, [.ref fa, .ref fb, .ref fd, .int 0])), (mo, .inr (3, [.ref mt, .ref mv, .int 1]))] := hD
  have w_3 : (r_1 = 1 ∧ (0 ≤ w ∧ w < 1)) ∨ (r_1 = 0 ∧ ¬ (0 ≤ w ∧ w < 1)) := w_3
  rcases w_3 with ⟨rfl, b_3⟩ | ⟨rfl, b_3⟩
  · refine lv_if_eq (tgt := 22) hx hb dX11_distinguish_8 (by decide) (fun c_4 => ?_) (fun c_4 => ?_)
    · exact absurd c_4 (by decide)
    · refine lv_aload_n hx hb dX11_distinguish_11 rfl (lv_at hl 0 rfl) ?_
      refine va_get (D := D) (ci := 11) (v := .ref mo) (C := RX11) (T := TX11) (N := 17) hx hb hts hiX11 hown hK hP 0 rfl rfl 0 (by decide) (hts (.fieldLink RX11 12 "DynamicLogicProver" "model" "LDynamicLogicProver$Model;") (mo_X11_distinguish 0 rfl)) (fun _ h9 => h9) rfl dX11_distinguish_12 ?_
      refine lv_iload_n hx hb dX11_distinguish_15 rfl (lv_at hl 2 rfl) ?_
      refine kc_Vi (As := [.int k]) (rest := []) (wr := [(x, .inr (11, [.ref mo, .ref sm, .ref sc, .ref fo, .ref sf, .ref bu, .ref po, .ref te, .ref pa, .ref rw, .ref tr, .ref cl, .ref pt, .ref ru, .ref de, .int 0, .int 0])), (fo, .inr (9, [.ref fa, .ref fb, .ref fd, .int 0]))]) ⟨hx, hb, hml, hown, hts⟩ (ct_X3_has l D mo mt mv 1 k _ ) (cwV 1 hts (kg_V (mo_X11_distinguish 1 rfl) (mo_X11_distinguish 2 rfl) (mo_X11_distinguish 3 rfl) (mo_X11_distinguish 4 rfl) (goodIn_sub mb_X11_distinguish_0 gw_X3_has)) rfl rfl rfl ⟨rfl, hd_X3_has⟩ ⟨Nat.le_of_ble_eq_true rfl, Nat.le_of_ble_eq_true rfl⟩) (RX3, TX3, 3) 3 2 rfl rfl rfl hK hN hP hD hS hA [2] [0, 1] [] rfl rfl (by decide) (by decide) (by decide) rfl rfl hl.1 rfl (Nat.le_of_ble_eq_true rfl) dX11_distinguish_16 ⟨Nat.le_of_ble_eq_true rfl, Nat.le_of_ble_eq_true rfl⟩ (fun r_5 u_6 H locs w_7 hP hD hK1 hS => ?_)
      have hP : va_P D vwCl [(x, .inr (11, [.ref mo, .ref sm, .ref sc, .ref fo, .ref sf, .ref bu, .ref po, .ref te, .ref pa, .ref rw, .ref tr, .ref cl, .ref pt, .ref ru, .ref de, .int 0, .int 0])), (fo, .inr (9, [.ref fa, .ref fb, .ref fd, .int 0])), (mo, .inr (3, [.ref mt, .ref mv, .int 1]))] H := hP
      have hD : va_D A [(x, .inr (11, [.ref mo, .ref sm, .ref sc, .ref fo, .ref sf, .ref bu, .ref po, .ref te, .ref pa, .ref rw, .ref tr, .ref cl, .ref pt, .ref ru, .ref de, .int 0, .int 0])), (fo, .inr (9, [.ref fa, .ref fb, .ref fd, .int 0])), (mo, .inr (3, [.ref mt, .ref mv, .int 1]))] := hD
      have w_7 : (r_5 = 1 ∧ (0 ≤ k ∧ k < 1)) ∨ (r_5 = 0 ∧ ¬ (0 ≤ k ∧ k < 1)) := w_7
      rcases w_7 with ⟨rfl, b_7⟩ | ⟨rfl, b_7⟩
      · refine lv_if_ne (tgt := 24) hx hb dX11_distinguish_19 (by decide) (fun c_8 => ?_) (fun c_8 => ?_)
        · refine lv_bipush (v := (-5)) hx hb dX11_distinguish_24 (by decide) ?_
          refine lv_istore_n (lv' := [(3, .int (-5)), (0, .ref x), (1, .int w), (2, .int k)]) hx hb dX11_distinguish_26 rfl hl (by decide) rfl (fun ls hl => ?_)
          refine lv_iconst (v := 0) hx hb dX11_distinguish_27 (by decide) ?_
          refine lv_istore (lv' := [(4, .int 0), (3, .int (-5)), (0, .ref x), (1, .int w), (2, .int k)]) hx hb dX11_distinguish_28 hl (by decide) rfl (fun ls hl => ?_)
          refine lv_iload hx hb dX11_distinguish_30 (lv_at hl 0 rfl) ?_
          refine lv_aload_n hx hb dX11_distinguish_32 rfl (lv_at hl 2 rfl) ?_
          refine va_get (D := D) (ci := 11) (v := .ref fo) (C := RX11) (T := TX11) (N := 17) hx hb hts hiX11 hown hK hP 0 rfl rfl 3 (by decide) (hts (.fieldLink RX11 27 "DynamicLogicProver" "formulas" "LDynamicLogicProver$Shelf;") (mo_X11_distinguish 5 rfl)) (fun _ h9 => h9) rfl dX11_distinguish_33 ?_
          refine kc_Vi (As := []) (rest := [.int 0]) (wr := [(x, .inr (11, [.ref mo, .ref sm, .ref sc, .ref fo, .ref sf, .ref bu, .ref po, .ref te, .ref pa, .ref rw, .ref tr, .ref cl, .ref pt, .ref ru, .ref de, .int 0, .int 0])), (mo, .inr (3, [.ref mt, .ref mv, .int 1]))]) ⟨hx, hb, hml, hown, hts⟩ (ct_X9_size l D fo fa fb fd 0 _ ) (cwV 0 hts (kg_V (mo_X11_distinguish 6 rfl) (mo_X11_distinguish 7 rfl) (mo_X11_distinguish 8 rfl) (mo_X11_distinguish 9 rfl) (goodIn_sub mb_X11_distinguish_1 gw_X9_size)) rfl rfl rfl ⟨rfl, hd_X9_size⟩ ⟨Nat.le_of_ble_eq_true rfl, Nat.le_of_ble_eq_true rfl⟩) (RX9, TX9, 4) 9 1 rfl rfl rfl hK hN hP hD hS hA [1] [0, 2] [] rfl rfl (by decide) (by decide) (by decide) rfl rfl hl.1 rfl (Nat.le_of_ble_eq_true rfl) dX11_distinguish_36 ⟨Nat.le_of_ble_eq_true rfl, Nat.le_of_ble_eq_true rfl⟩ (fun r_9 u_10 H locs w_11 hP hD hK1 hS => ?_)
          have hP : va_P D vwCl [(x, .inr (11, [.ref mo, .ref sm, .ref sc, .ref fo, .ref sf, .ref bu, .ref po, .ref te, .ref pa, .ref rw, .ref tr, .ref cl, .ref pt, .ref ru, .ref de, .int 0, .int 0])), (mo, .inr (3, [.ref mt, .ref mv, .int 1])), (fo, .inr (9, [.ref fa, .ref fb, .ref fd, .int 0]))] H := hP
          have hD : va_D A [(x, .inr (11, [.ref mo, .ref sm, .ref sc, .ref fo, .ref sf, .ref bu, .ref po, .ref te, .ref pa, .ref rw, .ref tr, .ref cl, .ref pt, .ref ru, .ref de, .int 0, .int 0])), (mo, .inr (3, [.ref mt, .ref mv, .int 1])), (fo, .inr (9, [.ref fa, .ref fb, .ref fd, .int 0]))] := hD
          have w_11 : r_9 = 0 := w_11
          subst w_11
          refine lv_icmp_ge (tgt := 102) hx hb dX11_distinguish_39 (by decide) (fun c_12 => ?_) (fun c_12 => ?_)
          · refine lv_iload_n hx hb dX11_distinguish_102 rfl (lv_at hl 1 rfl) ?_
            have hP9 := hP.sub (ws' := []) [] rfl
            have hD9 := hD.sub (ws' := []) [] (by decide) rfl
            have hK9 := hK.sub (tys' := []) [] rfl
            exact W.iret (v := (-5)) hx hb hr (fun tZ htZ hW => ⟨⟨(-5), (), rfl, (by unfold an_distinguish; first | rfl | ((repeat' split) <;> first | rfl | (exfalso; (try simp only [fa_lt, fa_le, fa_eq, ti_0, ti_1, ti_2, ti_3, ti_4, ti_5, ti_6, ti_8, ti_9, ti_10, ti_12, ti_18, ti_59, ti_60, ti_100, ti_127, ti_m1, ti_m2, ti_m3, ti_m4, ti_m5, ti_m10, ti_m11, ti_m12, ti_m13, ti_m14] at b_3); (try simp only [fa_lt, fa_le, fa_eq, ti_0, ti_1, ti_2, ti_3, ti_4, ti_5, ti_6, ti_8, ti_9, ti_10, ti_12, ti_18, ti_59, ti_60, ti_100, ti_127, ti_m1, ti_m2, ti_m3, ti_m4, ti_m5, ti_m10, ti_m11, ti_m12, ti_m13, ti_m14] at c_4); (try simp only [fa_lt, fa_le, fa_eq, ti_0, ti_1, ti_2, ti_3, ti_4, ti_5, ti_6, ti_8, ti_9, ti_10, ti_12, ti_18, ti_59, ti_60, ti_100, ti_127, ti_m1, ti_m2, ti_m3, ti_m4, ti_m5, ti_m10, ti_m11, ti_m12, ti_m13, ti_m14] at b_7); (try simp only [fa_lt, fa_le, fa_eq, ti_0, ti_1, ti_2, ti_3, ti_4, ti_5, ti_6, ti_8, ti_9, ti_10, ti_12, ti_18, ti_59, ti_60, ti_100, ti_127, ti_m1, ti_m2, ti_m3, ti_m4, ti_m5, ti_m10, ti_m11, ti_m12, ti_m13, ti_m14] at c_8); (try simp only [fa_lt, fa_le, fa_eq, ti_0, ti_1, ti_2, ti_3, ti_4, ti_5, ti_6, ti_8, ti_9, ti_10, ti_12, ti_18, ti_59, ti_60, ti_100, ti_127, ti_m1, ti_m2, ti_m3, ti_m4, ti_m5, ti_m10, ti_m11, ti_m12, ti_m13, ti_m14] at w_11); (try simp only [fa_lt, fa_le, fa_eq, ti_0, ti_1, ti_2, ti_3, ti_4, ti_5, ti_6, ti_8, ti_9, ti_10, ti_12, ti_18, ti_59, ti_60, ti_100, ti_127, ti_m1, ti_m2, ti_m3, ti_m4, ti_m5, ti_m10, ti_m11, ti_m12, ti_m13, ti_m14] at c_12); omega))), by rw [htZ]; exact hP9, va_K.moved hW.alike hK9, hD9⟩, hS.F htZ⟩) hS.2.2 dX11_distinguish_103
          · exact absurd c_12 (by decide)
        · exact absurd c_8 (by decide)
      · refine lv_if_ne (tgt := 24) hx hb dX11_distinguish_19 (by decide) (fun c_13 => ?_) (fun c_13 => ?_)
        · exact absurd c_13 (by decide)
        · refine lv_iconst (v := (-1)) hx hb dX11_distinguish_22 (by decide) ?_
          have hP9 := hP.sub (ws' := []) [] rfl
          have hD9 := hD.sub (ws' := []) [] (by decide) rfl
          have hK9 := hK.sub (tys' := []) [] rfl
          exact W.iret (v := (-1)) hx hb hr (fun tZ htZ hW => ⟨⟨(-1), (), rfl, (by unfold an_distinguish; first | rfl | ((repeat' split) <;> first | rfl | (exfalso; (try simp only [fa_lt, fa_le, fa_eq, ti_0, ti_1, ti_2, ti_3, ti_4, ti_5, ti_6, ti_8, ti_9, ti_10, ti_12, ti_18, ti_59, ti_60, ti_100, ti_127, ti_m1, ti_m2, ti_m3, ti_m4, ti_m5, ti_m10, ti_m11, ti_m12, ti_m13, ti_m14] at b_3); (try simp only [fa_lt, fa_le, fa_eq, ti_0, ti_1, ti_2, ti_3, ti_4, ti_5, ti_6, ti_8, ti_9, ti_10, ti_12, ti_18, ti_59, ti_60, ti_100, ti_127, ti_m1, ti_m2, ti_m3, ti_m4, ti_m5, ti_m10, ti_m11, ti_m12, ti_m13, ti_m14] at c_4); (try simp only [fa_lt, fa_le, fa_eq, ti_0, ti_1, ti_2, ti_3, ti_4, ti_5, ti_6, ti_8, ti_9, ti_10, ti_12, ti_18, ti_59, ti_60, ti_100, ti_127, ti_m1, ti_m2, ti_m3, ti_m4, ti_m5, ti_m10, ti_m11, ti_m12, ti_m13, ti_m14] at b_7); (try simp only [fa_lt, fa_le, fa_eq, ti_0, ti_1, ti_2, ti_3, ti_4, ti_5, ti_6, ti_8, ti_9, ti_10, ti_12, ti_18, ti_59, ti_60, ti_100, ti_127, ti_m1, ti_m2, ti_m3, ti_m4, ti_m5, ti_m10, ti_m11, ti_m12, ti_m13, ti_m14] at c_13); omega))), by rw [htZ]; exact hP9, va_K.moved hW.alike hK9, hD9⟩, hS.F htZ⟩) hS.2.2 dX11_distinguish_23
  · refine lv_if_eq (tgt := 22) hx hb dX11_distinguish_8 (by decide) (fun c_14 => ?_) (fun c_14 => ?_)
    · refine lv_iconst (v := (-1)) hx hb dX11_distinguish_22 (by decide) ?_
      have hP9 := hP.sub (ws' := []) [] rfl
      have hD9 := hD.sub (ws' := []) [] (by decide) rfl
      have hK9 := hK.sub (tys' := []) [] rfl
      exact W.iret (v := (-1)) hx hb hr (fun tZ htZ hW => ⟨⟨(-1), (), rfl, (by unfold an_distinguish; first | rfl | ((repeat' split) <;> first | rfl | (exfalso; (try simp only [fa_lt, fa_le, fa_eq, ti_0, ti_1, ti_2, ti_3, ti_4, ti_5, ti_6, ti_8, ti_9, ti_10, ti_12, ti_18, ti_59, ti_60, ti_100, ti_127, ti_m1, ti_m2, ti_m3, ti_m4, ti_m5, ti_m10, ti_m11, ti_m12, ti_m13, ti_m14] at b_3); (try simp only [fa_lt, fa_le, fa_eq, ti_0, ti_1, ti_2, ti_3, ti_4, ti_5, ti_6, ti_8, ti_9, ti_10, ti_12, ti_18, ti_59, ti_60, ti_100, ti_127, ti_m1, ti_m2, ti_m3, ti_m4, ti_m5, ti_m10, ti_m11, ti_m12, ti_m13, ti_m14] at c_14); omega))), by rw [htZ]; exact hP9, va_K.moved hW.alike hK9, hD9⟩, hS.F htZ⟩) hS.2.2 dX11_distinguish_23
    · exact absurd c_14 (by decide)
theorem dX11_compare_0 : decode cX11_compare 0 = .ok (.aload_n 0, 1) := by decide +kernel
theorem dX11_compare_1 : decode cX11_compare 1 = .ok (.getfield 37, 3) := by decide +kernel
theorem dX11_compare_4 : decode cX11_compare 4 = .ok (.iload_n 1, 1) := by decide +kernel
theorem dX11_compare_5 : decode cX11_compare 5 = .ok (.invokevirtual 307, 3) := by decide +kernel
theorem dX11_compare_8 : decode cX11_compare 8 = .ok (.ifCond .ne 5, 3) := by decide +kernel
theorem dX11_compare_11 : decode cX11_compare 11 = .ok (.iconst (-1), 1) := by decide +kernel
theorem dX11_compare_12 : decode cX11_compare 12 = .ok (.ireturn, 1) := by decide +kernel
theorem dX11_compare_13 : decode cX11_compare 13 = .ok (.aload_n 0, 1) := by decide +kernel
theorem dX11_compare_14 : decode cX11_compare 14 = .ok (.getfield 37, 3) := by decide +kernel
theorem dX11_compare_17 : decode cX11_compare 17 = .ok (.iload_n 1, 1) := by decide +kernel
theorem dX11_compare_18 : decode cX11_compare 18 = .ok (.invokevirtual 308, 3) := by decide +kernel
theorem dX11_compare_21 : decode cX11_compare 21 = .ok (.ifCond .ne 17, 3) := by decide +kernel
theorem dX11_compare_24 : decode cX11_compare 24 = .ok (.aload_n 0, 1) := by decide +kernel
theorem dX11_compare_25 : decode cX11_compare 25 = .ok (.getfield 37, 3) := by decide +kernel
theorem dX11_compare_28 : decode cX11_compare 28 = .ok (.iload_n 1, 1) := by decide +kernel
theorem dX11_compare_29 : decode cX11_compare 29 = .ok (.invokevirtual 311, 3) := by decide +kernel
theorem dX11_compare_32 : decode cX11_compare 32 = .ok (.ifCond .ne 6, 3) := by decide +kernel
theorem dX11_compare_35 : decode cX11_compare 35 = .ok (.bipush (-12), 2) := by decide +kernel
theorem dX11_compare_37 : decode cX11_compare 37 = .ok (.ireturn, 1) := by decide +kernel
theorem dX11_compare_38 : decode cX11_compare 38 = .ok (.iconst 0, 1) := by decide +kernel
theorem dX11_compare_39 : decode cX11_compare 39 = .ok (.istore_n 3, 1) := by decide +kernel
theorem dX11_compare_40 : decode cX11_compare 40 = .ok (.iload_n 3, 1) := by decide +kernel
theorem dX11_compare_41 : decode cX11_compare 41 = .ok (.aload_n 0, 1) := by decide +kernel
theorem dX11_compare_42 : decode cX11_compare 42 = .ok (.getfield 27, 3) := by decide +kernel
theorem dX11_compare_45 : decode cX11_compare 45 = .ok (.invokevirtual 219, 3) := by decide +kernel
theorem dX11_compare_48 : decode cX11_compare 48 = .ok (.if_icmp .ge 69, 3) := by decide +kernel
theorem dX11_compare_51 : decode cX11_compare 51 = .ok (.iload_n 2, 1) := by decide +kernel
theorem dX11_compare_52 : decode cX11_compare 52 = .ok (.i2l, 1) := by decide +kernel
theorem dX11_compare_53 : decode cX11_compare 53 = .ok (.iload_n 3, 1) := by decide +kernel
theorem dX11_compare_54 : decode cX11_compare 54 = .ok (.i2l, 1) := by decide +kernel
theorem dX11_compare_55 : decode cX11_compare 55 = .ok (.ladd, 1) := by decide +kernel
theorem dX11_compare_56 : decode cX11_compare 56 = .ok (.lstore 4, 2) := by decide +kernel
theorem dX11_compare_58 : decode cX11_compare 58 = .ok (.aload_n 0, 1) := by decide +kernel
theorem dX11_compare_59 : decode cX11_compare 59 = .ok (.getfield 37, 3) := by decide +kernel
theorem dX11_compare_62 : decode cX11_compare 62 = .ok (.iload_n 1, 1) := by decide +kernel
theorem dX11_compare_63 : decode cX11_compare 63 = .ok (.invokevirtual 308, 3) := by decide +kernel
theorem dX11_compare_66 : decode cX11_compare 66 = .ok (.ifCond .ne 16, 3) := by decide +kernel
theorem dX11_compare_69 : decode cX11_compare 69 = .ok (.aload_n 0, 1) := by decide +kernel
theorem dX11_compare_70 : decode cX11_compare 70 = .ok (.getfield 37, 3) := by decide +kernel
theorem dX11_compare_73 : decode cX11_compare 73 = .ok (.iload_n 1, 1) := by decide +kernel
theorem dX11_compare_74 : decode cX11_compare 74 = .ok (.lload 4, 2) := by decide +kernel
theorem dX11_compare_76 : decode cX11_compare 76 = .ok (.invokevirtual 314, 3) := by decide +kernel
theorem dX11_compare_79 : decode cX11_compare 79 = .ok (.ifCond .ne 9, 3) := by decide +kernel
theorem dX11_compare_82 : decode cX11_compare 82 = .ok (.sipush 1000, 3) := by decide +kernel
theorem dX11_compare_85 : decode cX11_compare 85 = .ok (.iload_n 3, 1) := by decide +kernel
theorem dX11_compare_86 : decode cX11_compare 86 = .ok (.iadd, 1) := by decide +kernel
theorem dX11_compare_87 : decode cX11_compare 87 = .ok (.ireturn, 1) := by decide +kernel
theorem dX11_compare_88 : decode cX11_compare 88 = .ok (.aload_n 0, 1) := by decide +kernel
theorem dX11_compare_89 : decode cX11_compare 89 = .ok (.getfield 37, 3) := by decide +kernel
theorem dX11_compare_92 : decode cX11_compare 92 = .ok (.iload_n 1, 1) := by decide +kernel
theorem dX11_compare_93 : decode cX11_compare 93 = .ok (.lload 4, 2) := by decide +kernel
theorem dX11_compare_95 : decode cX11_compare 95 = .ok (.l2i, 1) := by decide +kernel
theorem dX11_compare_96 : decode cX11_compare 96 = .ok (.invokevirtual 318, 3) := by decide +kernel
theorem dX11_compare_99 : decode cX11_compare 99 = .ok (.aload_n 0, 1) := by decide +kernel
theorem dX11_compare_100 : decode cX11_compare 100 = .ok (.iload_n 3, 1) := by decide +kernel
theorem dX11_compare_101 : decode cX11_compare 101 = .ok (.invokevirtual 216, 3) := by decide +kernel
theorem dX11_compare_104 : decode cX11_compare 104 = .ok (.i2l, 1) := by decide +kernel
theorem dX11_compare_105 : decode cX11_compare 105 = .ok (.lcmp, 1) := by decide +kernel
theorem dX11_compare_106 : decode cX11_compare 106 = .ok (.ifCond .eq 5, 3) := by decide +kernel
theorem dX11_compare_109 : decode cX11_compare 109 = .ok (.iload_n 3, 1) := by decide +kernel
theorem dX11_compare_110 : decode cX11_compare 110 = .ok (.ireturn, 1) := by decide +kernel
theorem dX11_compare_111 : decode cX11_compare 111 = .ok (.iinc 3 1, 3) := by decide +kernel
theorem dX11_compare_114 : decode cX11_compare 114 = .ok (.goto (-74), 3) := by decide +kernel
theorem dX11_compare_117 : decode cX11_compare 117 = .ok (.bipush (-5), 2) := by decide +kernel
theorem dX11_compare_119 : decode cX11_compare 119 = .ok (.ireturn, 1) := by decide +kernel
def wo_X11_compare : List Cond := [.fieldLink RX11 37 "DynamicLogicProver" "buffers" "LDynamicLogicProver$Buffers;", .methodLink RX11 307 yX0_has, .instanceMethod yX0_has, .selects RX0 yX0_has yX0_has, .initialized RX0, .methodLink RX11 308 yX0_isNull, .instanceMethod yX0_isNull, .selects RX0 yX0_isNull yX0_isNull, .fieldLink RX11 27 "DynamicLogicProver" "formulas" "LDynamicLogicProver$Shelf;", .methodLink RX11 219 yX9_size, .instanceMethod yX9_size, .selects RX9 yX9_size yX9_size, .initialized RX9]
def wd_X11_compare : List Cond := .code yX11_compare cX11_compare 6 (some .int) :: (wo_X11_compare ++ (wd_X0_has ++ (wd_X0_isNull1 ++ (wd_X9_size ++ (wsX110 ++ ([] : List Cond))))))
theorem mo_X11_compare {w : Cond} (i : Nat) (h : wo_X11_compare[i]? = some w) : w ∈ wd_X11_compare := List.mem_cons_of_mem _ (List.mem_append_left _ (List.mem_of_getElem? h))
theorem mb_X11_compare_0 : ∀ w ∈ wd_X0_has, w ∈ wd_X11_compare := fun w h => List.mem_cons_of_mem _ (List.mem_append_right _ (List.mem_append_left _ h))
theorem mb_X11_compare_1 : ∀ w ∈ wd_X0_isNull1, w ∈ wd_X11_compare := fun w h => List.mem_cons_of_mem _ (List.mem_append_right _ (List.mem_append_right _ (List.mem_append_left _ h)))
theorem mb_X11_compare_2 : ∀ w ∈ wd_X9_size, w ∈ wd_X11_compare := fun w h => List.mem_cons_of_mem _ (List.mem_append_right _ (List.mem_append_right _ (List.mem_append_right _ (List.mem_append_left _ h))))
theorem mb_X11_compare_3 : ∀ w ∈ wsX110, w ∈ wd_X11_compare := fun w h => List.mem_cons_of_mem _ (List.mem_append_right _ (List.mem_append_right _ (List.mem_append_right _ (List.mem_append_right _ (List.mem_append_left _ h)))))
theorem hd_X11_compare : yX11_compare.cls ≠ "java/lang/invoke/MethodHandle" ∧ yX11_compare.cls ≠ "java/lang/invoke/VarHandle" ∧ (parseMethodDescriptor yX11_compare.desc).map (fun d => d.parameters.length) = some 2 := by decide +kernel
set_option maxRecDepth 20000 in
theorem gw_X11_compare : wd_X11_compare.all goodWord = true := by decide +kernel
abbrev qc_X11_compare (D : va_G) (x : Nat) (mo : Nat) (sm : Nat) (sc : Nat) (fo : Nat) (sf : Nat) (bu : Nat) (po : Nat) (te : Nat) (pa : Nat) (rw : Nat) (tr : Nat) (cl : Nat) (pt : Nat) (ru : Nat) (de : Nat) (fa : Nat) (fb : Nat) (fd : Nat) (ba : Nat) (bb : Nat) (bd : Nat) (kba : ClassId) (fba : Nat → Int32) (b : Int32) (k : Int32) (A : Nat → Prop) : Array Value → State → Outcome → State → Prop := va_Qi (fun (r : Int32) (uZ : Unit) => r = an_compare b) (fun uZ tZ => kc_pos D A [] [] tZ) A
set_option maxHeartbeats 4000000 in
set_option maxRecDepth 100000 in
theorem ct_X11_compare (l : Launch) (D : va_G) (x : Nat) (mo : Nat) (sm : Nat) (sc : Nat) (fo : Nat) (sf : Nat) (bu : Nat) (po : Nat) (te : Nat) (pa : Nat) (rw : Nat) (tr : Nat) (cl : Nat) (pt : Nat) (ru : Nat) (de : Nat) (fa : Nat) (fb : Nat) (fd : Nat) (ba : Nat) (bb : Nat) (bd : Nat) (kba : ClassId) (fba : Nat → Int32) (b : Int32) (k : Int32) (sz : Nat) (hf : ∀ k, k < 6 → fba k = -1) : Met l yX11_compare wd_X11_compare ({ frames := 2, cells := 0, slots := 0, locals := 42 }) (va_Pc [.ref x, .int b, .int k] (kc_pre D [(kba, .int)] [(x, .inr (11, [.ref mo, .ref sm, .ref sc, .ref fo, .ref sf, .ref bu, .ref po, .ref te, .ref pa, .ref rw, .ref tr, .ref cl, .ref pt, .ref ru, .ref de, .int 0, .int 0])), (fo, .inr (9, [.ref fa, .ref fb, .ref fd, .int 0])), (bu, .inr (0, [.ref ba, .ref bb, .ref bd])), (ba, .inl (kba, 6, .inl fba))] sz)) (qc_X11_compare D x mo sm sc fo sf bu po te pa rw tr cl pt ru de fa fb fd ba bb bd kba fba b k (va_A [(x, .inr (11, [.ref mo, .ref sm, .ref sc, .ref fo, .ref sf, .ref bu, .ref po, .ref te, .ref pa, .ref rw, .ref tr, .ref cl, .ref pt, .ref ru, .ref de, .int 0, .int 0])), (fo, .inr (9, [.ref fa, .ref fb, .ref fd, .int 0])), (bu, .inr (0, [.ref ba, .ref bb, .ref bd])), (ba, .inl (kba, 6, .inl fba))] sz)) 0 0 (va_A [(x, .inr (11, [.ref mo, .ref sm, .ref sc, .ref fo, .ref sf, .ref bu, .ref po, .ref te, .ref pa, .ref rw, .ref tr, .ref cl, .ref pt, .ref ru, .ref de, .int 0, .int 0])), (fo, .inr (9, [.ref fa, .ref fb, .ref fd, .int 0])), (bu, .inr (0, [.ref ba, .ref bb, .ref bd])), (ba, .inl (kba, 6, .inl fba))] sz) := by
  refine Met.ofW (cc := cX11_compare) (maxL := 6) (ret := (some .int)) (by decide) rfl ?_
  intro p e s m args below meth c s₁ B hml hv
  obtain ⟨rfl, hsz, hP, hK, hN, hD0⟩ := hv
  have hx := B.exec
  have hb := B.bytes
  have hr := B.returns
  have hts := atoms_spec (ws := wd_X11_compare) B.pre
  have hown : s.vm.findClass RX11 = some m.cls := findClass_of_methodNamed B.named
  have hlocks := B.notSynchronized
  subst hsz
  have hD := hD0.self (sz := s.heap.size)
  generalize hAe : va_A [(x, .inr (11, [.ref mo, .ref sm, .ref sc, .ref fo, .ref sf, .ref bu, .ref po, .ref te, .ref pa, .ref rw, .ref tr, .ref cl, .ref pt, .ref ru, .ref de, .int 0, .int 0])), (fo, .inr (9, [.ref fa, .ref fb, .ref fd, .int 0])), (bu, .inr (0, [.ref ba, .ref bb, .ref bd])), (ba, .inl (kba, 6, .inl fba))] s.heap.size = A at hD ⊢
  have hA : ∀ q : Nat, s.heap.size ≤ q → A q := fun q h => by rw [← hAe]; exact Or.inr h
  have hS : va_S A s.heap s.heap [] := va_S.rf
  have hiX11 : ∀ w ∈ wsX110, w ∈ wd_X11_compare := mb_X11_compare_3
  have hl := lv_entry ([.ref x, .int b, .int k]) (n := 6) (Nat.le_of_ble_eq_true rfl)
  rw [lg_entry_eq]
  generalize (lg_sl ([.ref x, .int b, .int k]) ++ List.replicate (6 - (lg_sl ([.ref x, .int b, .int k])).length) Slot.unset).toArray = ls at hl ⊢
  have hl : lv_has ls 6 [(0, .ref x), (1, .int b), (2, .int k)] := hl
  refine lv_aload_n hx hb dX11_compare_0 rfl (lv_at hl 0 rfl) ?_
  refine va_get (D := D) (ci := 11) (v := .ref bu) (C := RX11) (T := TX11) (N := 17) hx hb hts hiX11 hown hK hP 0 rfl rfl 5 (by decide) (hts (.fieldLink RX11 37 "DynamicLogicProver" "buffers" "LDynamicLogicProver$Buffers;") (mo_X11_compare 0 rfl)) (fun _ h9 => h9) rfl dX11_compare_1 ?_
  refine lv_iload_n hx hb dX11_compare_4 rfl (lv_at hl 1 rfl) ?_
  refine kc_Vi (As := [.int b]) (rest := []) (wr := [(x, .inr (11, [.ref mo, .ref sm, .ref sc, .ref fo, .ref sf, .ref bu, .ref po, .ref te, .ref pa, .ref rw, .ref tr, .ref cl, .ref pt, .ref ru, .ref de, .int 0, .int 0])), (fo, .inr (9, [.ref fa, .ref fb, .ref fd, .int 0])), (ba, .inl (kba, 6, .inl fba))]) ⟨hx, hb, hml, hown, hts⟩ (ct_X0_has l D bu ba bb bd b _ ) (cwV 1 hts (kg_V (mo_X11_compare 1 rfl) (mo_X11_compare 2 rfl) (mo_X11_compare 3 rfl) (mo_X11_compare 4 rfl) (goodIn_sub mb_X11_compare_0 gw_X0_has)) rfl rfl rfl ⟨rfl, hd_X0_has⟩ ⟨Nat.le_of_ble_eq_true rfl, Nat.le_of_ble_eq_true rfl⟩) (RX0, TX0, 3) 0 2 rfl rfl rfl hK hN hP hD hS hA [2] [0, 1, 3] [] rfl rfl (by decide) (by decide) (by decide) rfl rfl hl.1 rfl (Nat.le_of_ble_eq_true rfl) dX11_compare_5 ⟨Nat.le_of_ble_eq_true rfl, Nat.le_of_ble_eq_true rfl⟩ (fun r_1 u_2 H locs w_3 hP hD hK1 hS => ?_)
  have hP : va_P D vwCl [(x, .inr (11, [.ref mo, .ref sm, .ref sc, .ref fo, .ref sf, .ref bu, .ref po, .ref te, .ref pa, .ref rw, .ref tr, .ref cl, .ref pt, .ref ru, .ref de, .int 0, .int 0])), (fo, .inr (9, [.ref fa, .ref fb, .ref fd, .int 0])), (ba, .inl (kba, 6, .inl fba)), (bu, .inr (0, [.ref ba, .ref bb, .ref bd]))] H := hP
  have hD : va_D A [(x, .inr (11, [.ref mo, .ref sm, .ref sc, .ref fo, .ref sf, .ref bu, .ref po, .ref te, .ref pa, .ref rw, .ref tr, .ref cl, .ref pt, .ref ru, .ref de, .int 0, .int 0])), (fo, .inr (9, [.ref fa, .ref fb, .ref fd, .int 0])), (ba, .inl (kba, 6, .inl fba)), (bu, .inr (0, [.ref ba, .ref bb, .ref bd]))] := hD
  have w_3 : (r_1 = 1 ∧ (0 ≤ b ∧ b < 6)) ∨ (r_1 = 0 ∧ ¬ (0 ≤ b ∧ b < 6)) := w_3
  rcases w_3 with ⟨rfl, b_3⟩ | ⟨rfl, b_3⟩
  · refine lv_if_ne (tgt := 13) hx hb dX11_compare_8 (by decide) (fun c_4 => ?_) (fun c_4 => ?_)
    · refine lv_aload_n hx hb dX11_compare_13 rfl (lv_at hl 0 rfl) ?_
      refine va_get (D := D) (ci := 11) (v := .ref bu) (C := RX11) (T := TX11) (N := 17) hx hb hts hiX11 hown hK hP 0 rfl rfl 5 (by decide) (hts (.fieldLink RX11 37 "DynamicLogicProver" "buffers" "LDynamicLogicProver$Buffers;") (mo_X11_compare 0 rfl)) (fun _ h9 => h9) rfl dX11_compare_14 ?_
      refine lv_iload_n hx hb dX11_compare_17 rfl (lv_at hl 1 rfl) ?_
      refine kc_Vi (As := [.int b]) (rest := []) (wr := [(x, .inr (11, [.ref mo, .ref sm, .ref sc, .ref fo, .ref sf, .ref bu, .ref po, .ref te, .ref pa, .ref rw, .ref tr, .ref cl, .ref pt, .ref ru, .ref de, .int 0, .int 0])), (fo, .inr (9, [.ref fa, .ref fb, .ref fd, .int 0]))]) ⟨hx, hb, hml, hown, hts⟩ (ct_X0_isNull1 l D bu ba bb bd kba fba b _ hf b_3) (cwV 1 hts (kg_V (mo_X11_compare 5 rfl) (mo_X11_compare 6 rfl) (mo_X11_compare 7 rfl) (mo_X11_compare 4 rfl) (goodIn_sub mb_X11_compare_1 gw_X0_isNull1)) rfl rfl rfl ⟨rfl, hd_X0_isNull⟩ ⟨Nat.le_of_ble_eq_true rfl, Nat.le_of_ble_eq_true rfl⟩) (RX0, TX0, 3) 0 3 rfl rfl rfl hK hN hP hD hS hA [3, 2] [0, 1] [0] rfl rfl (by decide) (by decide) (by decide) rfl rfl hl.1 rfl (Nat.le_of_ble_eq_true rfl) dX11_compare_18 ⟨Nat.le_of_ble_eq_true rfl, Nat.le_of_ble_eq_true rfl⟩ (fun r_5 u_6 H locs w_7 hP hD hK1 hS => ?_)
      have hP : va_P D vwCl [(x, .inr (11, [.ref mo, .ref sm, .ref sc, .ref fo, .ref sf, .ref bu, .ref po, .ref te, .ref pa, .ref rw, .ref tr, .ref cl, .ref pt, .ref ru, .ref de, .int 0, .int 0])), (fo, .inr (9, [.ref fa, .ref fb, .ref fd, .int 0])), (bu, .inr (0, [.ref ba, .ref bb, .ref bd])), (ba, .inl (kba, 6, .inl fba))] H := hP
      have hD : va_D A [(x, .inr (11, [.ref mo, .ref sm, .ref sc, .ref fo, .ref sf, .ref bu, .ref po, .ref te, .ref pa, .ref rw, .ref tr, .ref cl, .ref pt, .ref ru, .ref de, .int 0, .int 0])), (fo, .inr (9, [.ref fa, .ref fb, .ref fd, .int 0])), (bu, .inr (0, [.ref ba, .ref bb, .ref bd])), (ba, .inl (kba, 6, .inl fba))] := hD
      have w_7 : r_5 = 1 := w_7
      subst w_7
      refine lv_if_ne (tgt := 38) hx hb dX11_compare_21 (by decide) (fun c_8 => ?_) (fun c_8 => ?_)
      · refine lv_iconst (v := 0) hx hb dX11_compare_38 (by decide) ?_
        refine lv_istore_n (lv' := [(3, .int 0), (0, .ref x), (1, .int b), (2, .int k)]) hx hb dX11_compare_39 rfl hl (by decide) rfl (fun ls hl => ?_)
        refine lv_iload_n hx hb dX11_compare_40 rfl (lv_at hl 0 rfl) ?_
        refine lv_aload_n hx hb dX11_compare_41 rfl (lv_at hl 1 rfl) ?_
        refine va_get (D := D) (ci := 11) (v := .ref fo) (C := RX11) (T := TX11) (N := 17) hx hb hts hiX11 hown hK hP 0 rfl rfl 3 (by decide) (hts (.fieldLink RX11 27 "DynamicLogicProver" "formulas" "LDynamicLogicProver$Shelf;") (mo_X11_compare 8 rfl)) (fun _ h9 => h9) rfl dX11_compare_42 ?_
        refine kc_Vi (As := []) (rest := [.int 0]) (wr := [(x, .inr (11, [.ref mo, .ref sm, .ref sc, .ref fo, .ref sf, .ref bu, .ref po, .ref te, .ref pa, .ref rw, .ref tr, .ref cl, .ref pt, .ref ru, .ref de, .int 0, .int 0])), (bu, .inr (0, [.ref ba, .ref bb, .ref bd])), (ba, .inl (kba, 6, .inl fba))]) ⟨hx, hb, hml, hown, hts⟩ (ct_X9_size l D fo fa fb fd 0 _ ) (cwV 0 hts (kg_V (mo_X11_compare 9 rfl) (mo_X11_compare 10 rfl) (mo_X11_compare 11 rfl) (mo_X11_compare 12 rfl) (goodIn_sub mb_X11_compare_2 gw_X9_size)) rfl rfl rfl ⟨rfl, hd_X9_size⟩ ⟨Nat.le_of_ble_eq_true rfl, Nat.le_of_ble_eq_true rfl⟩) (RX9, TX9, 4) 9 1 rfl rfl rfl hK hN hP hD hS hA [1] [0, 2, 3] [] rfl rfl (by decide) (by decide) (by decide) rfl rfl hl.1 rfl (Nat.le_of_ble_eq_true rfl) dX11_compare_45 ⟨Nat.le_of_ble_eq_true rfl, Nat.le_of_ble_eq_true rfl⟩ (fun r_9 u_10 H locs w_11 hP hD hK1 hS => ?_)
        have hP : va_P D vwCl [(x, .inr (11, [.ref mo, .ref sm, .ref sc, .ref fo, .ref sf, .ref bu, .ref po, .ref te, .ref pa, .ref rw, .ref tr, .ref cl, .ref pt, .ref ru, .ref de, .int 0, .int 0])), (bu, .inr (0, [.ref ba, .ref bb, .ref bd])), (ba, .inl (kba, 6, .inl fba)), (fo, .inr (9, [.ref fa, .ref fb, .ref fd, .int 0]))] H := hP
        have hD : va_D A [(x, .inr (11, [.ref mo, .ref sm, .ref sc, .ref fo, .ref sf, .ref bu, .ref po, .ref te, .ref pa, .ref rw, .ref tr, .ref cl, .ref pt, .ref ru, .ref de, .int 0, .int 0])), (bu, .inr (0, [.ref ba, .ref bb, .ref bd])), (ba, .inl (kba, 6, .inl fba)), (fo, .inr (9, [.ref fa, .ref fb, .ref fd, .int 0]))] := hD
        have w_11 : r_9 = 0 := w_11
        subst w_11
        refine lv_icmp_ge (tgt := 117) hx hb dX11_compare_48 (by decide) (fun c_12 => ?_) (fun c_12 => ?_)
        · refine lv_bipush (v := (-5)) hx hb dX11_compare_117 (by decide) ?_
          have hP9 := hP.sub (ws' := []) [] rfl
          have hD9 := hD.sub (ws' := []) [] (by decide) rfl
          have hK9 := hK.sub (tys' := []) [] rfl
          exact W.iret (v := (-5)) hx hb hr (fun tZ htZ hW => ⟨⟨(-5), (), rfl, (by unfold an_compare; first | rfl | ((repeat' split) <;> first | rfl | (exfalso; (try simp only [fa_lt, fa_le, fa_eq, ti_0, ti_1, ti_2, ti_3, ti_4, ti_5, ti_6, ti_8, ti_9, ti_10, ti_12, ti_18, ti_59, ti_60, ti_100, ti_127, ti_m1, ti_m2, ti_m3, ti_m4, ti_m5, ti_m10, ti_m11, ti_m12, ti_m13, ti_m14] at b_3); (try simp only [fa_lt, fa_le, fa_eq, ti_0, ti_1, ti_2, ti_3, ti_4, ti_5, ti_6, ti_8, ti_9, ti_10, ti_12, ti_18, ti_59, ti_60, ti_100, ti_127, ti_m1, ti_m2, ti_m3, ti_m4, ti_m5, ti_m10, ti_m11, ti_m12, ti_m13, ti_m14] at c_4); (try simp only [fa_lt, fa_le, fa_eq, ti_0, ti_1, ti_2, ti_3, ti_4, ti_5, ti_6, ti_8, ti_9, ti_10, ti_12, ti_18, ti_59, ti_60, ti_100, ti_127, ti_m1, ti_m2, ti_m3, ti_m4, ti_m5, ti_m10, ti_m11, ti_m12, ti_m13, ti_m14] at w_7); (try simp only [fa_lt, fa_le, fa_eq, ti_0, ti_1, ti_2, ti_3, ti_4, ti_5, ti_6, ti_8, ti_9, ti_10, ti_12, ti_18, ti_59, ti_60, ti_100, ti_127, ti_m1, ti_m2, ti_m3, ti_m4, ti_m5, ti_m10, ti_m11, ti_m12, ti_m13, ti_m14] at c_8); (try simp only [fa_lt, fa_le, fa_eq, ti_0, ti_1, ti_2, ti_3, ti_4, ti_5, ti_6, ti_8, ti_9, ti_10, ti_12, ti_18, ti_59, ti_60, ti_100, ti_127, ti_m1, ti_m2, ti_m3, ti_m4, ti_m5, ti_m10, ti_m11, ti_m12, ti_m13, ti_m14] at w_11); (try simp only [fa_lt, fa_le, fa_eq, ti_0, ti_1, ti_2, ti_3, ti_4, ti_5, ti_6, ti_8, ti_9, ti_10, ti_12, ti_18, ti_59, ti_60, ti_100, ti_127, ti_m1, ti_m2, ti_m3, ti_m4, ti_m5, ti_m10, ti_m11, ti_m12, ti_m13, ti_m14] at c_12); omega))), by rw [htZ]; exact hP9, va_K.moved hW.alike hK9, hD9⟩, hS.F htZ⟩) hS.2.2 dX11_compare_119
        · exact absurd c_12 (by decide)
      · exact absurd c_8 (by decide)
    · exact absurd c_4 (by decide)
  · refine lv_if_ne (tgt := 13) hx hb dX11_compare_8 (by decide) (fun c_13 => ?_) (fun c_13 => ?_)
    · exact absurd c_13 (by decide)
    · refine lv_iconst (v := (-1)) hx hb dX11_compare_11 (by decide) ?_
      have hP9 := hP.sub (ws' := []) [] rfl
      have hD9 := hD.sub (ws' := []) [] (by decide) rfl
      have hK9 := hK.sub (tys' := []) [] rfl
      exact W.iret (v := (-1)) hx hb hr (fun tZ htZ hW => ⟨⟨(-1), (), rfl, (by unfold an_compare; first | rfl | ((repeat' split) <;> first | rfl | (exfalso; (try simp only [fa_lt, fa_le, fa_eq, ti_0, ti_1, ti_2, ti_3, ti_4, ti_5, ti_6, ti_8, ti_9, ti_10, ti_12, ti_18, ti_59, ti_60, ti_100, ti_127, ti_m1, ti_m2, ti_m3, ti_m4, ti_m5, ti_m10, ti_m11, ti_m12, ti_m13, ti_m14] at b_3); (try simp only [fa_lt, fa_le, fa_eq, ti_0, ti_1, ti_2, ti_3, ti_4, ti_5, ti_6, ti_8, ti_9, ti_10, ti_12, ti_18, ti_59, ti_60, ti_100, ti_127, ti_m1, ti_m2, ti_m3, ti_m4, ti_m5, ti_m10, ti_m11, ti_m12, ti_m13, ti_m14] at c_13); omega))), by rw [htZ]; exact hP9, va_K.moved hW.alike hK9, hD9⟩, hS.F htZ⟩) hS.2.2 dX11_compare_12
theorem dX11_store_0 : decode cX11_store 0 = .ok (.aload_n 0, 1) := by decide +kernel
theorem dX11_store_1 : decode cX11_store 1 = .ok (.getfield 37, 3) := by decide +kernel
theorem dX11_store_4 : decode cX11_store 4 = .ok (.iload_n 1, 1) := by decide +kernel
theorem dX11_store_5 : decode cX11_store 5 = .ok (.invokevirtual 307, 3) := by decide +kernel
theorem dX11_store_8 : decode cX11_store 8 = .ok (.ifCond .ne 5, 3) := by decide +kernel
theorem dX11_store_11 : decode cX11_store 11 = .ok (.iconst (-1), 1) := by decide +kernel
theorem dX11_store_12 : decode cX11_store 12 = .ok (.ireturn, 1) := by decide +kernel
theorem dX11_store_13 : decode cX11_store 13 = .ok (.aload_n 0, 1) := by decide +kernel
theorem dX11_store_14 : decode cX11_store 14 = .ok (.getfield 37, 3) := by decide +kernel
theorem dX11_store_17 : decode cX11_store 17 = .ok (.iload_n 1, 1) := by decide +kernel
theorem dX11_store_18 : decode cX11_store 18 = .ok (.invokevirtual 308, 3) := by decide +kernel
theorem dX11_store_21 : decode cX11_store 21 = .ok (.ifCond .eq 6, 3) := by decide +kernel
theorem dX11_store_24 : decode cX11_store 24 = .ok (.bipush (-11), 2) := by decide +kernel
theorem dX11_store_26 : decode cX11_store 26 = .ok (.ireturn, 1) := by decide +kernel
theorem dX11_store_27 : decode cX11_store 27 = .ok (.aload_n 0, 1) := by decide +kernel
theorem dX11_store_28 : decode cX11_store 28 = .ok (.getfield 37, 3) := by decide +kernel
theorem dX11_store_31 : decode cX11_store 31 = .ok (.iload_n 1, 1) := by decide +kernel
theorem dX11_store_32 : decode cX11_store 32 = .ok (.iload_n 2, 1) := by decide +kernel
theorem dX11_store_33 : decode cX11_store 33 = .ok (.i2l, 1) := by decide +kernel
theorem dX11_store_34 : decode cX11_store 34 = .ok (.invokevirtual 314, 3) := by decide +kernel
theorem dX11_store_37 : decode cX11_store 37 = .ok (.ifCond .ne 6, 3) := by decide +kernel
theorem dX11_store_40 : decode cX11_store 40 = .ok (.bipush (-13), 2) := by decide +kernel
theorem dX11_store_42 : decode cX11_store 42 = .ok (.ireturn, 1) := by decide +kernel
theorem dX11_store_43 : decode cX11_store 43 = .ok (.aload_n 0, 1) := by decide +kernel
theorem dX11_store_44 : decode cX11_store 44 = .ok (.getfield 37, 3) := by decide +kernel
theorem dX11_store_47 : decode cX11_store 47 = .ok (.iload_n 1, 1) := by decide +kernel
theorem dX11_store_48 : decode cX11_store 48 = .ok (.iload_n 2, 1) := by decide +kernel
theorem dX11_store_49 : decode cX11_store 49 = .ok (.lload_n 3, 1) := by decide +kernel
theorem dX11_store_50 : decode cX11_store 50 = .ok (.invokevirtual 338, 3) := by decide +kernel
theorem dX11_store_53 : decode cX11_store 53 = .ok (.iconst 1, 1) := by decide +kernel
theorem dX11_store_54 : decode cX11_store 54 = .ok (.ireturn, 1) := by decide +kernel
def wo_X11_store : List Cond := [.fieldLink RX11 37 "DynamicLogicProver" "buffers" "LDynamicLogicProver$Buffers;", .methodLink RX11 307 yX0_has, .instanceMethod yX0_has, .selects RX0 yX0_has yX0_has, .initialized RX0, .methodLink RX11 308 yX0_isNull, .instanceMethod yX0_isNull, .selects RX0 yX0_isNull yX0_isNull]
def wd_X11_store : List Cond := .code yX11_store cX11_store 5 (some .int) :: (wo_X11_store ++ (wd_X0_has ++ (wd_X0_isNull1 ++ (wsX110 ++ ([] : List Cond)))))
theorem mo_X11_store {w : Cond} (i : Nat) (h : wo_X11_store[i]? = some w) : w ∈ wd_X11_store := List.mem_cons_of_mem _ (List.mem_append_left _ (List.mem_of_getElem? h))
theorem mb_X11_store_0 : ∀ w ∈ wd_X0_has, w ∈ wd_X11_store := fun w h => List.mem_cons_of_mem _ (List.mem_append_right _ (List.mem_append_left _ h))
theorem mb_X11_store_1 : ∀ w ∈ wd_X0_isNull1, w ∈ wd_X11_store := fun w h => List.mem_cons_of_mem _ (List.mem_append_right _ (List.mem_append_right _ (List.mem_append_left _ h)))
theorem mb_X11_store_2 : ∀ w ∈ wsX110, w ∈ wd_X11_store := fun w h => List.mem_cons_of_mem _ (List.mem_append_right _ (List.mem_append_right _ (List.mem_append_right _ (List.mem_append_left _ h))))
theorem hd_X11_store : yX11_store.cls ≠ "java/lang/invoke/MethodHandle" ∧ yX11_store.cls ≠ "java/lang/invoke/VarHandle" ∧ (parseMethodDescriptor yX11_store.desc).map (fun d => d.parameters.length) = some 3 := by decide +kernel
set_option maxRecDepth 20000 in
theorem gw_X11_store : wd_X11_store.all goodWord = true := by decide +kernel
abbrev qc_X11_store (D : va_G) (x : Nat) (mo : Nat) (sm : Nat) (sc : Nat) (fo : Nat) (sf : Nat) (bu : Nat) (po : Nat) (te : Nat) (pa : Nat) (rw : Nat) (tr : Nat) (cl : Nat) (pt : Nat) (ru : Nat) (de : Nat) (ba : Nat) (bb : Nat) (bd : Nat) (kba : ClassId) (fba : Nat → Int32) (b : Int32) (k : Int32) (q : Int64) (A : Nat → Prop) : Array Value → State → Outcome → State → Prop := va_Qi (fun (r : Int32) (uZ : Unit) => r = an_store b) (fun uZ tZ => kc_pos D A [] [] tZ) A
set_option maxHeartbeats 4000000 in
set_option maxRecDepth 100000 in
theorem ct_X11_store (l : Launch) (D : va_G) (x : Nat) (mo : Nat) (sm : Nat) (sc : Nat) (fo : Nat) (sf : Nat) (bu : Nat) (po : Nat) (te : Nat) (pa : Nat) (rw : Nat) (tr : Nat) (cl : Nat) (pt : Nat) (ru : Nat) (de : Nat) (ba : Nat) (bb : Nat) (bd : Nat) (kba : ClassId) (fba : Nat → Int32) (b : Int32) (k : Int32) (q : Int64) (sz : Nat) (hf : ∀ k, k < 6 → fba k = -1) : Met l yX11_store wd_X11_store ({ frames := 2, cells := 0, slots := 0, locals := 42 }) (va_Pc [.ref x, .int b, .int k, .long q] (kc_pre D [(kba, .int)] [(x, .inr (11, [.ref mo, .ref sm, .ref sc, .ref fo, .ref sf, .ref bu, .ref po, .ref te, .ref pa, .ref rw, .ref tr, .ref cl, .ref pt, .ref ru, .ref de, .int 0, .int 0])), (bu, .inr (0, [.ref ba, .ref bb, .ref bd])), (ba, .inl (kba, 6, .inl fba))] sz)) (qc_X11_store D x mo sm sc fo sf bu po te pa rw tr cl pt ru de ba bb bd kba fba b k q (va_A [(x, .inr (11, [.ref mo, .ref sm, .ref sc, .ref fo, .ref sf, .ref bu, .ref po, .ref te, .ref pa, .ref rw, .ref tr, .ref cl, .ref pt, .ref ru, .ref de, .int 0, .int 0])), (bu, .inr (0, [.ref ba, .ref bb, .ref bd])), (ba, .inl (kba, 6, .inl fba))] sz)) 0 0 (va_A [(x, .inr (11, [.ref mo, .ref sm, .ref sc, .ref fo, .ref sf, .ref bu, .ref po, .ref te, .ref pa, .ref rw, .ref tr, .ref cl, .ref pt, .ref ru, .ref de, .int 0, .int 0])), (bu, .inr (0, [.ref ba, .ref bb, .ref bd])), (ba, .inl (kba, 6, .inl fba))] sz) := by
  refine Met.ofW (cc := cX11_store) (maxL := 5) (ret := (some .int)) (by decide) rfl ?_
  intro p e s m args below meth c s₁ B hml hv
  obtain ⟨rfl, hsz, hP, hK, hN, hD0⟩ := hv
  have hx := B.exec
  have hb := B.bytes
  have hr := B.returns
  have hts := atoms_spec (ws := wd_X11_store) B.pre
  have hown : s.vm.findClass RX11 = some m.cls := findClass_of_methodNamed B.named
  have hlocks := B.notSynchronized
  subst hsz
  have hD := hD0.self (sz := s.heap.size)
  generalize hAe : va_A [(x, .inr (11, [.ref mo, .ref sm, .ref sc, .ref fo, .ref sf, .ref bu, .ref po, .ref te, .ref pa, .ref rw, .ref tr, .ref cl, .ref pt, .ref ru, .ref de, .int 0, .int 0])), (bu, .inr (0, [.ref ba, .ref bb, .ref bd])), (ba, .inl (kba, 6, .inl fba))] s.heap.size = A at hD ⊢
  have hA : ∀ q : Nat, s.heap.size ≤ q → A q := fun q h => by rw [← hAe]; exact Or.inr h
  have hS : va_S A s.heap s.heap [] := va_S.rf
  have hiX11 : ∀ w ∈ wsX110, w ∈ wd_X11_store := mb_X11_store_2
  have hl := lv_entry ([.ref x, .int b, .int k, .long q]) (n := 5) (Nat.le_of_ble_eq_true rfl)
  rw [lg_entry_eq]
  generalize (lg_sl ([.ref x, .int b, .int k, .long q]) ++ List.replicate (5 - (lg_sl ([.ref x, .int b, .int k, .long q])).length) Slot.unset).toArray = ls at hl ⊢
  have hl : lv_has ls 5 [(0, .ref x), (1, .int b), (2, .int k), (3, .long q)] := hl
  refine lv_aload_n hx hb dX11_store_0 rfl (lv_at hl 0 rfl) ?_
  refine va_get (D := D) (ci := 11) (v := .ref bu) (C := RX11) (T := TX11) (N := 17) hx hb hts hiX11 hown hK hP 0 rfl rfl 5 (by decide) (hts (.fieldLink RX11 37 "DynamicLogicProver" "buffers" "LDynamicLogicProver$Buffers;") (mo_X11_store 0 rfl)) (fun _ h9 => h9) rfl dX11_store_1 ?_
  refine lv_iload_n hx hb dX11_store_4 rfl (lv_at hl 1 rfl) ?_
  refine kc_Vi (As := [.int b]) (rest := []) (wr := [(x, .inr (11, [.ref mo, .ref sm, .ref sc, .ref fo, .ref sf, .ref bu, .ref po, .ref te, .ref pa, .ref rw, .ref tr, .ref cl, .ref pt, .ref ru, .ref de, .int 0, .int 0])), (ba, .inl (kba, 6, .inl fba))]) ⟨hx, hb, hml, hown, hts⟩ (ct_X0_has l D bu ba bb bd b _ ) (cwV 1 hts (kg_V (mo_X11_store 1 rfl) (mo_X11_store 2 rfl) (mo_X11_store 3 rfl) (mo_X11_store 4 rfl) (goodIn_sub mb_X11_store_0 gw_X0_has)) rfl rfl rfl ⟨rfl, hd_X0_has⟩ ⟨Nat.le_of_ble_eq_true rfl, Nat.le_of_ble_eq_true rfl⟩) (RX0, TX0, 3) 0 1 rfl rfl rfl hK hN hP hD hS hA [1] [0, 2] [] rfl rfl (by decide) (by decide) (by decide) rfl rfl hl.1 rfl (Nat.le_of_ble_eq_true rfl) dX11_store_5 ⟨Nat.le_of_ble_eq_true rfl, Nat.le_of_ble_eq_true rfl⟩ (fun r_1 u_2 H locs w_3 hP hD hK1 hS => ?_)
  have hP : va_P D vwCl [(x, .inr (11, [.ref mo, .ref sm, .ref sc, .ref fo, .ref sf, .ref bu, .ref po, .ref te, .ref pa, .ref rw, .ref tr, .ref cl, .ref pt, .ref ru, .ref de, .int 0, .int 0])), (ba, .inl (kba, 6, .inl fba)), (bu, .inr (0, [.ref ba, .ref bb, .ref bd]))] H := hP
  have hD : va_D A [(x, .inr (11, [.ref mo, .ref sm, .ref sc, .ref fo, .ref sf, .ref bu, .ref po, .ref te, .ref pa, .ref rw, .ref tr, .ref cl, .ref pt, .ref ru, .ref de, .int 0, .int 0])), (ba, .inl (kba, 6, .inl fba)), (bu, .inr (0, [.ref ba, .ref bb, .ref bd]))] := hD
  have w_3 : (r_1 = 1 ∧ (0 ≤ b ∧ b < 6)) ∨ (r_1 = 0 ∧ ¬ (0 ≤ b ∧ b < 6)) := w_3
  rcases w_3 with ⟨rfl, b_3⟩ | ⟨rfl, b_3⟩
  · refine lv_if_ne (tgt := 13) hx hb dX11_store_8 (by decide) (fun c_4 => ?_) (fun c_4 => ?_)
    · refine lv_aload_n hx hb dX11_store_13 rfl (lv_at hl 0 rfl) ?_
      refine va_get (D := D) (ci := 11) (v := .ref bu) (C := RX11) (T := TX11) (N := 17) hx hb hts hiX11 hown hK hP 0 rfl rfl 5 (by decide) (hts (.fieldLink RX11 37 "DynamicLogicProver" "buffers" "LDynamicLogicProver$Buffers;") (mo_X11_store 0 rfl)) (fun _ h9 => h9) rfl dX11_store_14 ?_
      refine lv_iload_n hx hb dX11_store_17 rfl (lv_at hl 1 rfl) ?_
      refine kc_Vi (As := [.int b]) (rest := []) (wr := [(x, .inr (11, [.ref mo, .ref sm, .ref sc, .ref fo, .ref sf, .ref bu, .ref po, .ref te, .ref pa, .ref rw, .ref tr, .ref cl, .ref pt, .ref ru, .ref de, .int 0, .int 0]))]) ⟨hx, hb, hml, hown, hts⟩ (ct_X0_isNull1 l D bu ba bb bd kba fba b _ hf b_3) (cwV 1 hts (kg_V (mo_X11_store 5 rfl) (mo_X11_store 6 rfl) (mo_X11_store 7 rfl) (mo_X11_store 4 rfl) (goodIn_sub mb_X11_store_1 gw_X0_isNull1)) rfl rfl rfl ⟨rfl, hd_X0_isNull⟩ ⟨Nat.le_of_ble_eq_true rfl, Nat.le_of_ble_eq_true rfl⟩) (RX0, TX0, 3) 0 2 rfl rfl rfl hK hN hP hD hS hA [2, 1] [0] [0] rfl rfl (by decide) (by decide) (by decide) rfl rfl hl.1 rfl (Nat.le_of_ble_eq_true rfl) dX11_store_18 ⟨Nat.le_of_ble_eq_true rfl, Nat.le_of_ble_eq_true rfl⟩ (fun r_5 u_6 H locs w_7 hP hD hK1 hS => ?_)
      have hP : va_P D vwCl [(x, .inr (11, [.ref mo, .ref sm, .ref sc, .ref fo, .ref sf, .ref bu, .ref po, .ref te, .ref pa, .ref rw, .ref tr, .ref cl, .ref pt, .ref ru, .ref de, .int 0, .int 0])), (bu, .inr (0, [.ref ba, .ref bb, .ref bd])), (ba, .inl (kba, 6, .inl fba))] H := hP
      have hD : va_D A [(x, .inr (11, [.ref mo, .ref sm, .ref sc, .ref fo, .ref sf, .ref bu, .ref po, .ref te, .ref pa, .ref rw, .ref tr, .ref cl, .ref pt, .ref ru, .ref de, .int 0, .int 0])), (bu, .inr (0, [.ref ba, .ref bb, .ref bd])), (ba, .inl (kba, 6, .inl fba))] := hD
      have w_7 : r_5 = 1 := w_7
      subst w_7
      refine lv_if_eq (tgt := 27) hx hb dX11_store_21 (by decide) (fun c_8 => ?_) (fun c_8 => ?_)
      · exact absurd c_8 (by decide)
      · refine lv_bipush (v := (-11)) hx hb dX11_store_24 (by decide) ?_
        have hP9 := hP.sub (ws' := []) [] rfl
        have hD9 := hD.sub (ws' := []) [] (by decide) rfl
        have hK9 := hK.sub (tys' := []) [] rfl
        exact W.iret (v := (-11)) hx hb hr (fun tZ htZ hW => ⟨⟨(-11), (), rfl, (by unfold an_store; first | rfl | ((repeat' split) <;> first | rfl | (exfalso; (try simp only [fa_lt, fa_le, fa_eq, ti_0, ti_1, ti_2, ti_3, ti_4, ti_5, ti_6, ti_8, ti_9, ti_10, ti_12, ti_18, ti_59, ti_60, ti_100, ti_127, ti_m1, ti_m2, ti_m3, ti_m4, ti_m5, ti_m10, ti_m11, ti_m12, ti_m13, ti_m14] at b_3); (try simp only [fa_lt, fa_le, fa_eq, ti_0, ti_1, ti_2, ti_3, ti_4, ti_5, ti_6, ti_8, ti_9, ti_10, ti_12, ti_18, ti_59, ti_60, ti_100, ti_127, ti_m1, ti_m2, ti_m3, ti_m4, ti_m5, ti_m10, ti_m11, ti_m12, ti_m13, ti_m14] at c_4); (try simp only [fa_lt, fa_le, fa_eq, ti_0, ti_1, ti_2, ti_3, ti_4, ti_5, ti_6, ti_8, ti_9, ti_10, ti_12, ti_18, ti_59, ti_60, ti_100, ti_127, ti_m1, ti_m2, ti_m3, ti_m4, ti_m5, ti_m10, ti_m11, ti_m12, ti_m13, ti_m14] at w_7); (try simp only [fa_lt, fa_le, fa_eq, ti_0, ti_1, ti_2, ti_3, ti_4, ti_5, ti_6, ti_8, ti_9, ti_10, ti_12, ti_18, ti_59, ti_60, ti_100, ti_127, ti_m1, ti_m2, ti_m3, ti_m4, ti_m5, ti_m10, ti_m11, ti_m12, ti_m13, ti_m14] at c_8); omega))), by rw [htZ]; exact hP9, va_K.moved hW.alike hK9, hD9⟩, hS.F htZ⟩) hS.2.2 dX11_store_26
    · exact absurd c_4 (by decide)
  · refine lv_if_ne (tgt := 13) hx hb dX11_store_8 (by decide) (fun c_9 => ?_) (fun c_9 => ?_)
    · exact absurd c_9 (by decide)
    · refine lv_iconst (v := (-1)) hx hb dX11_store_11 (by decide) ?_
      have hP9 := hP.sub (ws' := []) [] rfl
      have hD9 := hD.sub (ws' := []) [] (by decide) rfl
      have hK9 := hK.sub (tys' := []) [] rfl
      exact W.iret (v := (-1)) hx hb hr (fun tZ htZ hW => ⟨⟨(-1), (), rfl, (by unfold an_store; first | rfl | ((repeat' split) <;> first | rfl | (exfalso; (try simp only [fa_lt, fa_le, fa_eq, ti_0, ti_1, ti_2, ti_3, ti_4, ti_5, ti_6, ti_8, ti_9, ti_10, ti_12, ti_18, ti_59, ti_60, ti_100, ti_127, ti_m1, ti_m2, ti_m3, ti_m4, ti_m5, ti_m10, ti_m11, ti_m12, ti_m13, ti_m14] at b_3); (try simp only [fa_lt, fa_le, fa_eq, ti_0, ti_1, ti_2, ti_3, ti_4, ti_5, ti_6, ti_8, ti_9, ti_10, ti_12, ti_18, ti_59, ti_60, ti_100, ti_127, ti_m1, ti_m2, ti_m3, ti_m4, ti_m5, ti_m10, ti_m11, ti_m12, ti_m13, ti_m14] at c_9); omega))), by rw [htZ]; exact hP9, va_K.moved hW.alike hK9, hD9⟩, hS.F htZ⟩) hS.2.2 dX11_store_12
theorem dX11_load_0 : decode cX11_load 0 = .ok (.aload_n 0, 1) := by decide +kernel
theorem dX11_load_1 : decode cX11_load 1 = .ok (.getfield 37, 3) := by decide +kernel
theorem dX11_load_4 : decode cX11_load 4 = .ok (.iload_n 1, 1) := by decide +kernel
theorem dX11_load_5 : decode cX11_load 5 = .ok (.invokevirtual 307, 3) := by decide +kernel
theorem dX11_load_8 : decode cX11_load 8 = .ok (.ifCond .eq 27, 3) := by decide +kernel
theorem dX11_load_11 : decode cX11_load 11 = .ok (.aload_n 0, 1) := by decide +kernel
theorem dX11_load_12 : decode cX11_load 12 = .ok (.getfield 37, 3) := by decide +kernel
theorem dX11_load_15 : decode cX11_load 15 = .ok (.iload_n 1, 1) := by decide +kernel
theorem dX11_load_16 : decode cX11_load 16 = .ok (.invokevirtual 308, 3) := by decide +kernel
theorem dX11_load_19 : decode cX11_load 19 = .ok (.ifCond .ne 16, 3) := by decide +kernel
theorem dX11_load_22 : decode cX11_load 22 = .ok (.aload_n 0, 1) := by decide +kernel
theorem dX11_load_23 : decode cX11_load 23 = .ok (.getfield 37, 3) := by decide +kernel
theorem dX11_load_26 : decode cX11_load 26 = .ok (.iload_n 1, 1) := by decide +kernel
theorem dX11_load_27 : decode cX11_load 27 = .ok (.iload_n 2, 1) := by decide +kernel
theorem dX11_load_28 : decode cX11_load 28 = .ok (.i2l, 1) := by decide +kernel
theorem dX11_load_29 : decode cX11_load 29 = .ok (.invokevirtual 314, 3) := by decide +kernel
theorem dX11_load_32 : decode cX11_load 32 = .ok (.ifCond .ne 7, 3) := by decide +kernel
theorem dX11_load_35 : decode cX11_load 35 = .ok (.ldc2_w 247, 3) := by decide +kernel
theorem dX11_load_38 : decode cX11_load 38 = .ok (.lreturn, 1) := by decide +kernel
theorem dX11_load_39 : decode cX11_load 39 = .ok (.aload_n 0, 1) := by decide +kernel
theorem dX11_load_40 : decode cX11_load 40 = .ok (.getfield 37, 3) := by decide +kernel
theorem dX11_load_43 : decode cX11_load 43 = .ok (.iload_n 1, 1) := by decide +kernel
theorem dX11_load_44 : decode cX11_load 44 = .ok (.iload_n 2, 1) := by decide +kernel
theorem dX11_load_45 : decode cX11_load 45 = .ok (.invokevirtual 318, 3) := by decide +kernel
theorem dX11_load_48 : decode cX11_load 48 = .ok (.lreturn, 1) := by decide +kernel
def wo_X11_load : List Cond := [.fieldLink RX11 37 "DynamicLogicProver" "buffers" "LDynamicLogicProver$Buffers;", .methodLink RX11 307 yX0_has, .instanceMethod yX0_has, .selects RX0 yX0_has yX0_has, .initialized RX0, .methodLink RX11 308 yX0_isNull, .instanceMethod yX0_isNull, .selects RX0 yX0_isNull yX0_isNull, .constantLong RX11 247 (-9223372036854775808)]
def wd_X11_load : List Cond := .code yX11_load cX11_load 3 (some .long) :: (wo_X11_load ++ (wd_X0_has ++ (wd_X0_isNull1 ++ (wsX110 ++ ([] : List Cond)))))
theorem mo_X11_load {w : Cond} (i : Nat) (h : wo_X11_load[i]? = some w) : w ∈ wd_X11_load := List.mem_cons_of_mem _ (List.mem_append_left _ (List.mem_of_getElem? h))
theorem mb_X11_load_0 : ∀ w ∈ wd_X0_has, w ∈ wd_X11_load := fun w h => List.mem_cons_of_mem _ (List.mem_append_right _ (List.mem_append_left _ h))
theorem mb_X11_load_1 : ∀ w ∈ wd_X0_isNull1, w ∈ wd_X11_load := fun w h => List.mem_cons_of_mem _ (List.mem_append_right _ (List.mem_append_right _ (List.mem_append_left _ h)))
theorem mb_X11_load_2 : ∀ w ∈ wsX110, w ∈ wd_X11_load := fun w h => List.mem_cons_of_mem _ (List.mem_append_right _ (List.mem_append_right _ (List.mem_append_right _ (List.mem_append_left _ h))))
theorem hd_X11_load : yX11_load.cls ≠ "java/lang/invoke/MethodHandle" ∧ yX11_load.cls ≠ "java/lang/invoke/VarHandle" ∧ (parseMethodDescriptor yX11_load.desc).map (fun d => d.parameters.length) = some 2 := by decide +kernel
set_option maxRecDepth 20000 in
theorem gw_X11_load : wd_X11_load.all goodWord = true := by decide +kernel
abbrev qc_X11_load (D : va_G) (x : Nat) (mo : Nat) (sm : Nat) (sc : Nat) (fo : Nat) (sf : Nat) (bu : Nat) (po : Nat) (te : Nat) (pa : Nat) (rw : Nat) (tr : Nat) (cl : Nat) (pt : Nat) (ru : Nat) (de : Nat) (ba : Nat) (bb : Nat) (bd : Nat) (kba : ClassId) (fba : Nat → Int32) (b : Int32) (k : Int32) (A : Nat → Prop) : Array Value → State → Outcome → State → Prop := va_Ql (fun (r : Int64) (uZ : Unit) => r = (-9223372036854775808)) (fun uZ tZ => kc_pos D A [] [] tZ) A
set_option maxHeartbeats 4000000 in
set_option maxRecDepth 100000 in
theorem ct_X11_load (l : Launch) (D : va_G) (x : Nat) (mo : Nat) (sm : Nat) (sc : Nat) (fo : Nat) (sf : Nat) (bu : Nat) (po : Nat) (te : Nat) (pa : Nat) (rw : Nat) (tr : Nat) (cl : Nat) (pt : Nat) (ru : Nat) (de : Nat) (ba : Nat) (bb : Nat) (bd : Nat) (kba : ClassId) (fba : Nat → Int32) (b : Int32) (k : Int32) (sz : Nat) (hf : ∀ k, k < 6 → fba k = -1) : Met l yX11_load wd_X11_load ({ frames := 2, cells := 0, slots := 0, locals := 42 }) (va_Pc [.ref x, .int b, .int k] (kc_pre D [(kba, .int)] [(x, .inr (11, [.ref mo, .ref sm, .ref sc, .ref fo, .ref sf, .ref bu, .ref po, .ref te, .ref pa, .ref rw, .ref tr, .ref cl, .ref pt, .ref ru, .ref de, .int 0, .int 0])), (bu, .inr (0, [.ref ba, .ref bb, .ref bd])), (ba, .inl (kba, 6, .inl fba))] sz)) (qc_X11_load D x mo sm sc fo sf bu po te pa rw tr cl pt ru de ba bb bd kba fba b k (va_A [(x, .inr (11, [.ref mo, .ref sm, .ref sc, .ref fo, .ref sf, .ref bu, .ref po, .ref te, .ref pa, .ref rw, .ref tr, .ref cl, .ref pt, .ref ru, .ref de, .int 0, .int 0])), (bu, .inr (0, [.ref ba, .ref bb, .ref bd])), (ba, .inl (kba, 6, .inl fba))] sz)) 0 0 (va_A [(x, .inr (11, [.ref mo, .ref sm, .ref sc, .ref fo, .ref sf, .ref bu, .ref po, .ref te, .ref pa, .ref rw, .ref tr, .ref cl, .ref pt, .ref ru, .ref de, .int 0, .int 0])), (bu, .inr (0, [.ref ba, .ref bb, .ref bd])), (ba, .inl (kba, 6, .inl fba))] sz) := by
  refine Met.ofW (cc := cX11_load) (maxL := 3) (ret := (some .long)) (by decide) rfl ?_
  intro p e s m args below meth c s₁ B hml hv
  obtain ⟨rfl, hsz, hP, hK, hN, hD0⟩ := hv
  have hx := B.exec
  have hb := B.bytes
  have hr := B.returns
  have hts := atoms_spec (ws := wd_X11_load) B.pre
  have hown : s.vm.findClass RX11 = some m.cls := findClass_of_methodNamed B.named
  have hlocks := B.notSynchronized
  subst hsz
  have hD := hD0.self (sz := s.heap.size)
  generalize hAe : va_A [(x, .inr (11, [.ref mo, .ref sm, .ref sc, .ref fo, .ref sf, .ref bu, .ref po, .ref te, .ref pa, .ref rw, .ref tr, .ref cl, .ref pt, .ref ru, .ref de, .int 0, .int 0])), (bu, .inr (0, [.ref ba, .ref bb, .ref bd])), (ba, .inl (kba, 6, .inl fba))] s.heap.size = A at hD ⊢
  have hA : ∀ q : Nat, s.heap.size ≤ q → A q := fun q h => by rw [← hAe]; exact Or.inr h
  have hS : va_S A s.heap s.heap [] := va_S.rf
  have hiX11 : ∀ w ∈ wsX110, w ∈ wd_X11_load := mb_X11_load_2
  have hl := lv_entry ([.ref x, .int b, .int k]) (n := 3) (Nat.le_of_ble_eq_true rfl)
  rw [lg_entry_eq]
  generalize (lg_sl ([.ref x, .int b, .int k]) ++ List.replicate (3 - (lg_sl ([.ref x, .int b, .int k])).length) Slot.unset).toArray = ls at hl ⊢
  have hl : lv_has ls 3 [(0, .ref x), (1, .int b), (2, .int k)] := hl
  refine lv_aload_n hx hb dX11_load_0 rfl (lv_at hl 0 rfl) ?_
  refine va_get (D := D) (ci := 11) (v := .ref bu) (C := RX11) (T := TX11) (N := 17) hx hb hts hiX11 hown hK hP 0 rfl rfl 5 (by decide) (hts (.fieldLink RX11 37 "DynamicLogicProver" "buffers" "LDynamicLogicProver$Buffers;") (mo_X11_load 0 rfl)) (fun _ h9 => h9) rfl dX11_load_1 ?_
  refine lv_iload_n hx hb dX11_load_4 rfl (lv_at hl 1 rfl) ?_
  refine kc_Vi (As := [.int b]) (rest := []) (wr := [(x, .inr (11, [.ref mo, .ref sm, .ref sc, .ref fo, .ref sf, .ref bu, .ref po, .ref te, .ref pa, .ref rw, .ref tr, .ref cl, .ref pt, .ref ru, .ref de, .int 0, .int 0])), (ba, .inl (kba, 6, .inl fba))]) ⟨hx, hb, hml, hown, hts⟩ (ct_X0_has l D bu ba bb bd b _ ) (cwV 1 hts (kg_V (mo_X11_load 1 rfl) (mo_X11_load 2 rfl) (mo_X11_load 3 rfl) (mo_X11_load 4 rfl) (goodIn_sub mb_X11_load_0 gw_X0_has)) rfl rfl rfl ⟨rfl, hd_X0_has⟩ ⟨Nat.le_of_ble_eq_true rfl, Nat.le_of_ble_eq_true rfl⟩) (RX0, TX0, 3) 0 1 rfl rfl rfl hK hN hP hD hS hA [1] [0, 2] [] rfl rfl (by decide) (by decide) (by decide) rfl rfl hl.1 rfl (Nat.le_of_ble_eq_true rfl) dX11_load_5 ⟨Nat.le_of_ble_eq_true rfl, Nat.le_of_ble_eq_true rfl⟩ (fun r_1 u_2 H locs w_3 hP hD hK1 hS => ?_)
  have hP : va_P D vwCl [(x, .inr (11, [.ref mo, .ref sm, .ref sc, .ref fo, .ref sf, .ref bu, .ref po, .ref te, .ref pa, .ref rw, .ref tr, .ref cl, .ref pt, .ref ru, .ref de, .int 0, .int 0])), (ba, .inl (kba, 6, .inl fba)), (bu, .inr (0, [.ref ba, .ref bb, .ref bd]))] H := hP
  have hD : va_D A [(x, .inr (11, [.ref mo, .ref sm, .ref sc, .ref fo, .ref sf, .ref bu, .ref po, .ref te, .ref pa, .ref rw, .ref tr, .ref cl, .ref pt, .ref ru, .ref de, .int 0, .int 0])), (ba, .inl (kba, 6, .inl fba)), (bu, .inr (0, [.ref ba, .ref bb, .ref bd]))] := hD
  have w_3 : (r_1 = 1 ∧ (0 ≤ b ∧ b < 6)) ∨ (r_1 = 0 ∧ ¬ (0 ≤ b ∧ b < 6)) := w_3
  rcases w_3 with ⟨rfl, b_3⟩ | ⟨rfl, b_3⟩
  · refine lv_if_eq (tgt := 35) hx hb dX11_load_8 (by decide) (fun c_4 => ?_) (fun c_4 => ?_)
    · exact absurd c_4 (by decide)
    · refine lv_aload_n hx hb dX11_load_11 rfl (lv_at hl 0 rfl) ?_
      refine va_get (D := D) (ci := 11) (v := .ref bu) (C := RX11) (T := TX11) (N := 17) hx hb hts hiX11 hown hK hP 0 rfl rfl 5 (by decide) (hts (.fieldLink RX11 37 "DynamicLogicProver" "buffers" "LDynamicLogicProver$Buffers;") (mo_X11_load 0 rfl)) (fun _ h9 => h9) rfl dX11_load_12 ?_
      refine lv_iload_n hx hb dX11_load_15 rfl (lv_at hl 1 rfl) ?_
      refine kc_Vi (As := [.int b]) (rest := []) (wr := [(x, .inr (11, [.ref mo, .ref sm, .ref sc, .ref fo, .ref sf, .ref bu, .ref po, .ref te, .ref pa, .ref rw, .ref tr, .ref cl, .ref pt, .ref ru, .ref de, .int 0, .int 0]))]) ⟨hx, hb, hml, hown, hts⟩ (ct_X0_isNull1 l D bu ba bb bd kba fba b _ hf b_3) (cwV 1 hts (kg_V (mo_X11_load 5 rfl) (mo_X11_load 6 rfl) (mo_X11_load 7 rfl) (mo_X11_load 4 rfl) (goodIn_sub mb_X11_load_1 gw_X0_isNull1)) rfl rfl rfl ⟨rfl, hd_X0_isNull⟩ ⟨Nat.le_of_ble_eq_true rfl, Nat.le_of_ble_eq_true rfl⟩) (RX0, TX0, 3) 0 2 rfl rfl rfl hK hN hP hD hS hA [2, 1] [0] [0] rfl rfl (by decide) (by decide) (by decide) rfl rfl hl.1 rfl (Nat.le_of_ble_eq_true rfl) dX11_load_16 ⟨Nat.le_of_ble_eq_true rfl, Nat.le_of_ble_eq_true rfl⟩ (fun r_5 u_6 H locs w_7 hP hD hK1 hS => ?_)
      have hP : va_P D vwCl [(x, .inr (11, [.ref mo, .ref sm, .ref sc, .ref fo, .ref sf, .ref bu, .ref po, .ref te, .ref pa, .ref rw, .ref tr, .ref cl, .ref pt, .ref ru, .ref de, .int 0, .int 0])), (bu, .inr (0, [.ref ba, .ref bb, .ref bd])), (ba, .inl (kba, 6, .inl fba))] H := hP
      have hD : va_D A [(x, .inr (11, [.ref mo, .ref sm, .ref sc, .ref fo, .ref sf, .ref bu, .ref po, .ref te, .ref pa, .ref rw, .ref tr, .ref cl, .ref pt, .ref ru, .ref de, .int 0, .int 0])), (bu, .inr (0, [.ref ba, .ref bb, .ref bd])), (ba, .inl (kba, 6, .inl fba))] := hD
      have w_7 : r_5 = 1 := w_7
      subst w_7
      refine lv_if_ne (tgt := 35) hx hb dX11_load_19 (by decide) (fun c_8 => ?_) (fun c_8 => ?_)
      · refine lv_ldc2 hx hb hown (hts (.constantLong RX11 247 (-9223372036854775808)) (mo_X11_load 8 rfl)) dX11_load_35 ?_
        have hP9 := hP.sub (ws' := []) [] rfl
        have hD9 := hD.sub (ws' := []) [] (by decide) rfl
        have hK9 := hK.sub (tys' := []) [] rfl
        exact W.lret (v := (-9223372036854775808)) hx hb hr (fun tZ htZ hW => ⟨⟨(-9223372036854775808), (), rfl, rfl, by rw [htZ]; exact hP9, va_K.moved hW.alike hK9, hD9⟩, hS.F htZ⟩) hS.2.2 dX11_load_38
      · exact absurd c_8 (by decide)
  · refine lv_if_eq (tgt := 35) hx hb dX11_load_8 (by decide) (fun c_9 => ?_) (fun c_9 => ?_)
    · refine lv_ldc2 hx hb hown (hts (.constantLong RX11 247 (-9223372036854775808)) (mo_X11_load 8 rfl)) dX11_load_35 ?_
      have hP9 := hP.sub (ws' := []) [] rfl
      have hD9 := hD.sub (ws' := []) [] (by decide) rfl
      have hK9 := hK.sub (tys' := []) [] rfl
      exact W.lret (v := (-9223372036854775808)) hx hb hr (fun tZ htZ hW => ⟨⟨(-9223372036854775808), (), rfl, rfl, by rw [htZ]; exact hP9, va_K.moved hW.alike hK9, hD9⟩, hS.F htZ⟩) hS.2.2 dX11_load_38
    · exact absurd c_9 (by decide)
theorem dX11_copy_0 : decode cX11_copy 0 = .ok (.aload_n 0, 1) := by decide +kernel
theorem dX11_copy_1 : decode cX11_copy 1 = .ok (.getfield 37, 3) := by decide +kernel
theorem dX11_copy_4 : decode cX11_copy 4 = .ok (.iload_n 1, 1) := by decide +kernel
theorem dX11_copy_5 : decode cX11_copy 5 = .ok (.invokevirtual 307, 3) := by decide +kernel
theorem dX11_copy_8 : decode cX11_copy 8 = .ok (.ifCond .eq 14, 3) := by decide +kernel
theorem dX11_copy_11 : decode cX11_copy 11 = .ok (.aload_n 0, 1) := by decide +kernel
theorem dX11_copy_12 : decode cX11_copy 12 = .ok (.getfield 37, 3) := by decide +kernel
theorem dX11_copy_15 : decode cX11_copy 15 = .ok (.iload_n 3, 1) := by decide +kernel
theorem dX11_copy_16 : decode cX11_copy 16 = .ok (.invokevirtual 307, 3) := by decide +kernel
theorem dX11_copy_19 : decode cX11_copy 19 = .ok (.ifCond .ne 5, 3) := by decide +kernel
theorem dX11_copy_22 : decode cX11_copy 22 = .ok (.iconst (-1), 1) := by decide +kernel
theorem dX11_copy_23 : decode cX11_copy 23 = .ok (.ireturn, 1) := by decide +kernel
theorem dX11_copy_24 : decode cX11_copy 24 = .ok (.aload_n 0, 1) := by decide +kernel
theorem dX11_copy_25 : decode cX11_copy 25 = .ok (.getfield 37, 3) := by decide +kernel
theorem dX11_copy_28 : decode cX11_copy 28 = .ok (.iload_n 1, 1) := by decide +kernel
theorem dX11_copy_29 : decode cX11_copy 29 = .ok (.invokevirtual 308, 3) := by decide +kernel
theorem dX11_copy_32 : decode cX11_copy 32 = .ok (.ifCond .ne 14, 3) := by decide +kernel
theorem dX11_copy_35 : decode cX11_copy 35 = .ok (.aload_n 0, 1) := by decide +kernel
theorem dX11_copy_36 : decode cX11_copy 36 = .ok (.getfield 37, 3) := by decide +kernel
theorem dX11_copy_39 : decode cX11_copy 39 = .ok (.iload_n 3, 1) := by decide +kernel
theorem dX11_copy_40 : decode cX11_copy 40 = .ok (.invokevirtual 308, 3) := by decide +kernel
theorem dX11_copy_43 : decode cX11_copy 43 = .ok (.ifCond .eq 6, 3) := by decide +kernel
theorem dX11_copy_46 : decode cX11_copy 46 = .ok (.bipush (-11), 2) := by decide +kernel
theorem dX11_copy_48 : decode cX11_copy 48 = .ok (.ireturn, 1) := by decide +kernel
theorem dX11_copy_49 : decode cX11_copy 49 = .ok (.aload_n 0, 1) := by decide +kernel
theorem dX11_copy_50 : decode cX11_copy 50 = .ok (.getfield 37, 3) := by decide +kernel
theorem dX11_copy_53 : decode cX11_copy 53 = .ok (.iload_n 1, 1) := by decide +kernel
theorem dX11_copy_54 : decode cX11_copy 54 = .ok (.iload_n 3, 1) := by decide +kernel
theorem dX11_copy_55 : decode cX11_copy 55 = .ok (.invokevirtual 342, 3) := by decide +kernel
theorem dX11_copy_58 : decode cX11_copy 58 = .ok (.ifCond .ne 6, 3) := by decide +kernel
theorem dX11_copy_61 : decode cX11_copy 61 = .ok (.bipush (-12), 2) := by decide +kernel
theorem dX11_copy_63 : decode cX11_copy 63 = .ok (.ireturn, 1) := by decide +kernel
theorem dX11_copy_64 : decode cX11_copy 64 = .ok (.aload_n 0, 1) := by decide +kernel
theorem dX11_copy_65 : decode cX11_copy 65 = .ok (.getfield 37, 3) := by decide +kernel
theorem dX11_copy_68 : decode cX11_copy 68 = .ok (.iload_n 1, 1) := by decide +kernel
theorem dX11_copy_69 : decode cX11_copy 69 = .ok (.iload_n 2, 1) := by decide +kernel
theorem dX11_copy_70 : decode cX11_copy 70 = .ok (.iload 5, 2) := by decide +kernel
theorem dX11_copy_72 : decode cX11_copy 72 = .ok (.invokevirtual 346, 3) := by decide +kernel
theorem dX11_copy_75 : decode cX11_copy 75 = .ok (.ifCond .eq 18, 3) := by decide +kernel
theorem dX11_copy_78 : decode cX11_copy 78 = .ok (.aload_n 0, 1) := by decide +kernel
theorem dX11_copy_79 : decode cX11_copy 79 = .ok (.getfield 37, 3) := by decide +kernel
theorem dX11_copy_82 : decode cX11_copy 82 = .ok (.iload_n 3, 1) := by decide +kernel
theorem dX11_copy_83 : decode cX11_copy 83 = .ok (.iload 4, 2) := by decide +kernel
theorem dX11_copy_85 : decode cX11_copy 85 = .ok (.iload 5, 2) := by decide +kernel
theorem dX11_copy_87 : decode cX11_copy 87 = .ok (.invokevirtual 346, 3) := by decide +kernel
theorem dX11_copy_90 : decode cX11_copy 90 = .ok (.ifCond .ne 6, 3) := by decide +kernel
theorem dX11_copy_93 : decode cX11_copy 93 = .ok (.bipush (-13), 2) := by decide +kernel
theorem dX11_copy_95 : decode cX11_copy 95 = .ok (.ireturn, 1) := by decide +kernel
theorem dX11_copy_96 : decode cX11_copy 96 = .ok (.aload_n 0, 1) := by decide +kernel
theorem dX11_copy_97 : decode cX11_copy 97 = .ok (.getfield 37, 3) := by decide +kernel
theorem dX11_copy_100 : decode cX11_copy 100 = .ok (.iload_n 1, 1) := by decide +kernel
theorem dX11_copy_101 : decode cX11_copy 101 = .ok (.iload_n 2, 1) := by decide +kernel
theorem dX11_copy_102 : decode cX11_copy 102 = .ok (.iload_n 3, 1) := by decide +kernel
theorem dX11_copy_103 : decode cX11_copy 103 = .ok (.iload 4, 2) := by decide +kernel
theorem dX11_copy_105 : decode cX11_copy 105 = .ok (.iload 5, 2) := by decide +kernel
theorem dX11_copy_107 : decode cX11_copy 107 = .ok (.invokevirtual 350, 3) := by decide +kernel
theorem dX11_copy_110 : decode cX11_copy 110 = .ok (.iload 5, 2) := by decide +kernel
theorem dX11_copy_112 : decode cX11_copy 112 = .ok (.ireturn, 1) := by decide +kernel
def wo_X11_copy : List Cond := [.fieldLink RX11 37 "DynamicLogicProver" "buffers" "LDynamicLogicProver$Buffers;", .methodLink RX11 307 yX0_has, .instanceMethod yX0_has, .selects RX0 yX0_has yX0_has, .initialized RX0, .methodLink RX11 308 yX0_isNull, .instanceMethod yX0_isNull, .selects RX0 yX0_isNull yX0_isNull]
def wd_X11_copy : List Cond := .code yX11_copy cX11_copy 6 (some .int) :: (wo_X11_copy ++ (wd_X0_has ++ (wd_X0_isNull1 ++ (wsX110 ++ ([] : List Cond)))))
theorem mo_X11_copy {w : Cond} (i : Nat) (h : wo_X11_copy[i]? = some w) : w ∈ wd_X11_copy := List.mem_cons_of_mem _ (List.mem_append_left _ (List.mem_of_getElem? h))
theorem mb_X11_copy_0 : ∀ w ∈ wd_X0_has, w ∈ wd_X11_copy := fun w h => List.mem_cons_of_mem _ (List.mem_append_right _ (List.mem_append_left _ h))
theorem mb_X11_copy_1 : ∀ w ∈ wd_X0_isNull1, w ∈ wd_X11_copy := fun w h => List.mem_cons_of_mem _ (List.mem_append_right _ (List.mem_append_right _ (List.mem_append_left _ h)))
theorem mb_X11_copy_2 : ∀ w ∈ wsX110, w ∈ wd_X11_copy := fun w h => List.mem_cons_of_mem _ (List.mem_append_right _ (List.mem_append_right _ (List.mem_append_right _ (List.mem_append_left _ h))))
theorem hd_X11_copy : yX11_copy.cls ≠ "java/lang/invoke/MethodHandle" ∧ yX11_copy.cls ≠ "java/lang/invoke/VarHandle" ∧ (parseMethodDescriptor yX11_copy.desc).map (fun d => d.parameters.length) = some 5 := by decide +kernel
set_option maxRecDepth 20000 in
theorem gw_X11_copy : wd_X11_copy.all goodWord = true := by decide +kernel
abbrev qc_X11_copy (D : va_G) (x : Nat) (mo : Nat) (sm : Nat) (sc : Nat) (fo : Nat) (sf : Nat) (bu : Nat) (po : Nat) (te : Nat) (pa : Nat) (rw : Nat) (tr : Nat) (cl : Nat) (pt : Nat) (ru : Nat) (de : Nat) (ba : Nat) (bb : Nat) (bd : Nat) (kba : ClassId) (fba : Nat → Int32) (a : Int32) (k : Int32) (b : Int32) (n : Int32) (g : Int32) (A : Nat → Prop) : Array Value → State → Outcome → State → Prop := va_Qi (fun (r : Int32) (uZ : Unit) => r = an_copy a b) (fun uZ tZ => kc_pos D A [] [] tZ) A
set_option maxHeartbeats 4000000 in
set_option maxRecDepth 100000 in
theorem ct_X11_copy (l : Launch) (D : va_G) (x : Nat) (mo : Nat) (sm : Nat) (sc : Nat) (fo : Nat) (sf : Nat) (bu : Nat) (po : Nat) (te : Nat) (pa : Nat) (rw : Nat) (tr : Nat) (cl : Nat) (pt : Nat) (ru : Nat) (de : Nat) (ba : Nat) (bb : Nat) (bd : Nat) (kba : ClassId) (fba : Nat → Int32) (a : Int32) (k : Int32) (b : Int32) (n : Int32) (g : Int32) (sz : Nat) (hf : ∀ k, k < 6 → fba k = -1) : Met l yX11_copy wd_X11_copy ({ frames := 2, cells := 0, slots := 0, locals := 42 }) (va_Pc [.ref x, .int a, .int k, .int b, .int n, .int g] (kc_pre D [(kba, .int)] [(x, .inr (11, [.ref mo, .ref sm, .ref sc, .ref fo, .ref sf, .ref bu, .ref po, .ref te, .ref pa, .ref rw, .ref tr, .ref cl, .ref pt, .ref ru, .ref de, .int 0, .int 0])), (bu, .inr (0, [.ref ba, .ref bb, .ref bd])), (ba, .inl (kba, 6, .inl fba))] sz)) (qc_X11_copy D x mo sm sc fo sf bu po te pa rw tr cl pt ru de ba bb bd kba fba a k b n g (va_A [(x, .inr (11, [.ref mo, .ref sm, .ref sc, .ref fo, .ref sf, .ref bu, .ref po, .ref te, .ref pa, .ref rw, .ref tr, .ref cl, .ref pt, .ref ru, .ref de, .int 0, .int 0])), (bu, .inr (0, [.ref ba, .ref bb, .ref bd])), (ba, .inl (kba, 6, .inl fba))] sz)) 0 0 (va_A [(x, .inr (11, [.ref mo, .ref sm, .ref sc, .ref fo, .ref sf, .ref bu, .ref po, .ref te, .ref pa, .ref rw, .ref tr, .ref cl, .ref pt, .ref ru, .ref de, .int 0, .int 0])), (bu, .inr (0, [.ref ba, .ref bb, .ref bd])), (ba, .inl (kba, 6, .inl fba))] sz) := by
  refine Met.ofW (cc := cX11_copy) (maxL := 6) (ret := (some .int)) (by decide) rfl ?_
  intro p e s m args below meth c s₁ B hml hv
  obtain ⟨rfl, hsz, hP, hK, hN, hD0⟩ := hv
  have hx := B.exec
  have hb := B.bytes
  have hr := B.returns
  have hts := atoms_spec (ws := wd_X11_copy) B.pre
  have hown : s.vm.findClass RX11 = some m.cls := findClass_of_methodNamed B.named
  have hlocks := B.notSynchronized
  subst hsz
  have hD := hD0.self (sz := s.heap.size)
  generalize hAe : va_A [(x, .inr (11, [.ref mo, .ref sm, .ref sc, .ref fo, .ref sf, .ref bu, .ref po, .ref te, .ref pa, .ref rw, .ref tr, .ref cl, .ref pt, .ref ru, .ref de, .int 0, .int 0])), (bu, .inr (0, [.ref ba, .ref bb, .ref bd])), (ba, .inl (kba, 6, .inl fba))] s.heap.size = A at hD ⊢
  have hA : ∀ q : Nat, s.heap.size ≤ q → A q := fun q h => by rw [← hAe]; exact Or.inr h
  have hS : va_S A s.heap s.heap [] := va_S.rf
  have hiX11 : ∀ w ∈ wsX110, w ∈ wd_X11_copy := mb_X11_copy_2
  have hl := lv_entry ([.ref x, .int a, .int k, .int b, .int n, .int g]) (n := 6) (Nat.le_of_ble_eq_true rfl)
  rw [lg_entry_eq]
  generalize (lg_sl ([.ref x, .int a, .int k, .int b, .int n, .int g]) ++ List.replicate (6 - (lg_sl ([.ref x, .int a, .int k, .int b, .int n, .int g])).length) Slot.unset).toArray = ls at hl ⊢
  have hl : lv_has ls 6 [(0, .ref x), (1, .int a), (2, .int k), (3, .int b), (4, .int n), (5, .int g)] := hl
  refine lv_aload_n hx hb dX11_copy_0 rfl (lv_at hl 0 rfl) ?_
  refine va_get (D := D) (ci := 11) (v := .ref bu) (C := RX11) (T := TX11) (N := 17) hx hb hts hiX11 hown hK hP 0 rfl rfl 5 (by decide) (hts (.fieldLink RX11 37 "DynamicLogicProver" "buffers" "LDynamicLogicProver$Buffers;") (mo_X11_copy 0 rfl)) (fun _ h9 => h9) rfl dX11_copy_1 ?_
  refine lv_iload_n hx hb dX11_copy_4 rfl (lv_at hl 1 rfl) ?_
  refine kc_Vi (As := [.int a]) (rest := []) (wr := [(x, .inr (11, [.ref mo, .ref sm, .ref sc, .ref fo, .ref sf, .ref bu, .ref po, .ref te, .ref pa, .ref rw, .ref tr, .ref cl, .ref pt, .ref ru, .ref de, .int 0, .int 0])), (ba, .inl (kba, 6, .inl fba))]) ⟨hx, hb, hml, hown, hts⟩ (ct_X0_has l D bu ba bb bd a _ ) (cwV 1 hts (kg_V (mo_X11_copy 1 rfl) (mo_X11_copy 2 rfl) (mo_X11_copy 3 rfl) (mo_X11_copy 4 rfl) (goodIn_sub mb_X11_copy_0 gw_X0_has)) rfl rfl rfl ⟨rfl, hd_X0_has⟩ ⟨Nat.le_of_ble_eq_true rfl, Nat.le_of_ble_eq_true rfl⟩) (RX0, TX0, 3) 0 1 rfl rfl rfl hK hN hP hD hS hA [1] [0, 2] [] rfl rfl (by decide) (by decide) (by decide) rfl rfl hl.1 rfl (Nat.le_of_ble_eq_true rfl) dX11_copy_5 ⟨Nat.le_of_ble_eq_true rfl, Nat.le_of_ble_eq_true rfl⟩ (fun r_1 u_2 H locs w_3 hP hD hK1 hS => ?_)
  have hP : va_P D vwCl [(x, .inr (11, [.ref mo, .ref sm, .ref sc, .ref fo, .ref sf, .ref bu, .ref po, .ref te, .ref pa, .ref rw, .ref tr, .ref cl, .ref pt, .ref ru, .ref de, .int 0, .int 0])), (ba, .inl (kba, 6, .inl fba)), (bu, .inr (0, [.ref ba, .ref bb, .ref bd]))] H := hP
  have hD : va_D A [(x, .inr (11, [.ref mo, .ref sm, .ref sc, .ref fo, .ref sf, .ref bu, .ref po, .ref te, .ref pa, .ref rw, .ref tr, .ref cl, .ref pt, .ref ru, .ref de, .int 0, .int 0])), (ba, .inl (kba, 6, .inl fba)), (bu, .inr (0, [.ref ba, .ref bb, .ref bd]))] := hD
  have w_3 : (r_1 = 1 ∧ (0 ≤ a ∧ a < 6)) ∨ (r_1 = 0 ∧ ¬ (0 ≤ a ∧ a < 6)) := w_3
  rcases w_3 with ⟨rfl, b_3⟩ | ⟨rfl, b_3⟩
  · refine lv_if_eq (tgt := 22) hx hb dX11_copy_8 (by decide) (fun c_4 => ?_) (fun c_4 => ?_)
    · exact absurd c_4 (by decide)
    · refine lv_aload_n hx hb dX11_copy_11 rfl (lv_at hl 0 rfl) ?_
      refine va_get (D := D) (ci := 11) (v := .ref bu) (C := RX11) (T := TX11) (N := 17) hx hb hts hiX11 hown hK hP 0 rfl rfl 5 (by decide) (hts (.fieldLink RX11 37 "DynamicLogicProver" "buffers" "LDynamicLogicProver$Buffers;") (mo_X11_copy 0 rfl)) (fun _ h9 => h9) rfl dX11_copy_12 ?_
      refine lv_iload_n hx hb dX11_copy_15 rfl (lv_at hl 3 rfl) ?_
      refine kc_Vi (As := [.int b]) (rest := []) (wr := [(x, .inr (11, [.ref mo, .ref sm, .ref sc, .ref fo, .ref sf, .ref bu, .ref po, .ref te, .ref pa, .ref rw, .ref tr, .ref cl, .ref pt, .ref ru, .ref de, .int 0, .int 0])), (ba, .inl (kba, 6, .inl fba))]) ⟨hx, hb, hml, hown, hts⟩ (ct_X0_has l D bu ba bb bd b _ ) (cwV 1 hts (kg_V (mo_X11_copy 1 rfl) (mo_X11_copy 2 rfl) (mo_X11_copy 3 rfl) (mo_X11_copy 4 rfl) (goodIn_sub mb_X11_copy_0 gw_X0_has)) rfl rfl rfl ⟨rfl, hd_X0_has⟩ ⟨Nat.le_of_ble_eq_true rfl, Nat.le_of_ble_eq_true rfl⟩) (RX0, TX0, 3) 0 2 rfl rfl rfl hK hN hP hD hS hA [2] [0, 1] [] rfl rfl (by decide) (by decide) (by decide) rfl rfl hl.1 rfl (Nat.le_of_ble_eq_true rfl) dX11_copy_16 ⟨Nat.le_of_ble_eq_true rfl, Nat.le_of_ble_eq_true rfl⟩ (fun r_5 u_6 H locs w_7 hP hD hK1 hS => ?_)
      have hP : va_P D vwCl [(x, .inr (11, [.ref mo, .ref sm, .ref sc, .ref fo, .ref sf, .ref bu, .ref po, .ref te, .ref pa, .ref rw, .ref tr, .ref cl, .ref pt, .ref ru, .ref de, .int 0, .int 0])), (ba, .inl (kba, 6, .inl fba)), (bu, .inr (0, [.ref ba, .ref bb, .ref bd]))] H := hP
      have hD : va_D A [(x, .inr (11, [.ref mo, .ref sm, .ref sc, .ref fo, .ref sf, .ref bu, .ref po, .ref te, .ref pa, .ref rw, .ref tr, .ref cl, .ref pt, .ref ru, .ref de, .int 0, .int 0])), (ba, .inl (kba, 6, .inl fba)), (bu, .inr (0, [.ref ba, .ref bb, .ref bd]))] := hD
      have w_7 : (r_5 = 1 ∧ (0 ≤ b ∧ b < 6)) ∨ (r_5 = 0 ∧ ¬ (0 ≤ b ∧ b < 6)) := w_7
      rcases w_7 with ⟨rfl, b_7⟩ | ⟨rfl, b_7⟩
      · refine lv_if_ne (tgt := 24) hx hb dX11_copy_19 (by decide) (fun c_8 => ?_) (fun c_8 => ?_)
        · refine lv_aload_n hx hb dX11_copy_24 rfl (lv_at hl 0 rfl) ?_
          refine va_get (D := D) (ci := 11) (v := .ref bu) (C := RX11) (T := TX11) (N := 17) hx hb hts hiX11 hown hK hP 0 rfl rfl 5 (by decide) (hts (.fieldLink RX11 37 "DynamicLogicProver" "buffers" "LDynamicLogicProver$Buffers;") (mo_X11_copy 0 rfl)) (fun _ h9 => h9) rfl dX11_copy_25 ?_
          refine lv_iload_n hx hb dX11_copy_28 rfl (lv_at hl 1 rfl) ?_
          refine kc_Vi (As := [.int a]) (rest := []) (wr := [(x, .inr (11, [.ref mo, .ref sm, .ref sc, .ref fo, .ref sf, .ref bu, .ref po, .ref te, .ref pa, .ref rw, .ref tr, .ref cl, .ref pt, .ref ru, .ref de, .int 0, .int 0]))]) ⟨hx, hb, hml, hown, hts⟩ (ct_X0_isNull1 l D bu ba bb bd kba fba a _ hf b_3) (cwV 1 hts (kg_V (mo_X11_copy 5 rfl) (mo_X11_copy 6 rfl) (mo_X11_copy 7 rfl) (mo_X11_copy 4 rfl) (goodIn_sub mb_X11_copy_1 gw_X0_isNull1)) rfl rfl rfl ⟨rfl, hd_X0_isNull⟩ ⟨Nat.le_of_ble_eq_true rfl, Nat.le_of_ble_eq_true rfl⟩) (RX0, TX0, 3) 0 2 rfl rfl rfl hK hN hP hD hS hA [2, 1] [0] [0] rfl rfl (by decide) (by decide) (by decide) rfl rfl hl.1 rfl (Nat.le_of_ble_eq_true rfl) dX11_copy_29 ⟨Nat.le_of_ble_eq_true rfl, Nat.le_of_ble_eq_true rfl⟩ (fun r_9 u_10 H locs w_11 hP hD hK1 hS => ?_)
          have hP : va_P D vwCl [(x, .inr (11, [.ref mo, .ref sm, .ref sc, .ref fo, .ref sf, .ref bu, .ref po, .ref te, .ref pa, .ref rw, .ref tr, .ref cl, .ref pt, .ref ru, .ref de, .int 0, .int 0])), (bu, .inr (0, [.ref ba, .ref bb, .ref bd])), (ba, .inl (kba, 6, .inl fba))] H := hP
          have hD : va_D A [(x, .inr (11, [.ref mo, .ref sm, .ref sc, .ref fo, .ref sf, .ref bu, .ref po, .ref te, .ref pa, .ref rw, .ref tr, .ref cl, .ref pt, .ref ru, .ref de, .int 0, .int 0])), (bu, .inr (0, [.ref ba, .ref bb, .ref bd])), (ba, .inl (kba, 6, .inl fba))] := hD
          have w_11 : r_9 = 1 := w_11
          subst w_11
          refine lv_if_ne (tgt := 46) hx hb dX11_copy_32 (by decide) (fun c_12 => ?_) (fun c_12 => ?_)
          · refine lv_bipush (v := (-11)) hx hb dX11_copy_46 (by decide) ?_
            have hP9 := hP.sub (ws' := []) [] rfl
            have hD9 := hD.sub (ws' := []) [] (by decide) rfl
            have hK9 := hK.sub (tys' := []) [] rfl
            exact W.iret (v := (-11)) hx hb hr (fun tZ htZ hW => ⟨⟨(-11), (), rfl, (by unfold an_copy; first | rfl | ((repeat' split) <;> first | rfl | (exfalso; (try simp only [fa_lt, fa_le, fa_eq, ti_0, ti_1, ti_2, ti_3, ti_4, ti_5, ti_6, ti_8, ti_9, ti_10, ti_12, ti_18, ti_59, ti_60, ti_100, ti_127, ti_m1, ti_m2, ti_m3, ti_m4, ti_m5, ti_m10, ti_m11, ti_m12, ti_m13, ti_m14] at b_3); (try simp only [fa_lt, fa_le, fa_eq, ti_0, ti_1, ti_2, ti_3, ti_4, ti_5, ti_6, ti_8, ti_9, ti_10, ti_12, ti_18, ti_59, ti_60, ti_100, ti_127, ti_m1, ti_m2, ti_m3, ti_m4, ti_m5, ti_m10, ti_m11, ti_m12, ti_m13, ti_m14] at c_4); (try simp only [fa_lt, fa_le, fa_eq, ti_0, ti_1, ti_2, ti_3, ti_4, ti_5, ti_6, ti_8, ti_9, ti_10, ti_12, ti_18, ti_59, ti_60, ti_100, ti_127, ti_m1, ti_m2, ti_m3, ti_m4, ti_m5, ti_m10, ti_m11, ti_m12, ti_m13, ti_m14] at b_7); (try simp only [fa_lt, fa_le, fa_eq, ti_0, ti_1, ti_2, ti_3, ti_4, ti_5, ti_6, ti_8, ti_9, ti_10, ti_12, ti_18, ti_59, ti_60, ti_100, ti_127, ti_m1, ti_m2, ti_m3, ti_m4, ti_m5, ti_m10, ti_m11, ti_m12, ti_m13, ti_m14] at c_8); (try simp only [fa_lt, fa_le, fa_eq, ti_0, ti_1, ti_2, ti_3, ti_4, ti_5, ti_6, ti_8, ti_9, ti_10, ti_12, ti_18, ti_59, ti_60, ti_100, ti_127, ti_m1, ti_m2, ti_m3, ti_m4, ti_m5, ti_m10, ti_m11, ti_m12, ti_m13, ti_m14] at w_11); (try simp only [fa_lt, fa_le, fa_eq, ti_0, ti_1, ti_2, ti_3, ti_4, ti_5, ti_6, ti_8, ti_9, ti_10, ti_12, ti_18, ti_59, ti_60, ti_100, ti_127, ti_m1, ti_m2, ti_m3, ti_m4, ti_m5, ti_m10, ti_m11, ti_m12, ti_m13, ti_m14] at c_12); omega))), by rw [htZ]; exact hP9, va_K.moved hW.alike hK9, hD9⟩, hS.F htZ⟩) hS.2.2 dX11_copy_48
          · exact absurd c_12 (by decide)
        · exact absurd c_8 (by decide)
      · refine lv_if_ne (tgt := 24) hx hb dX11_copy_19 (by decide) (fun c_13 => ?_) (fun c_13 => ?_)
        · exact absurd c_13 (by decide)
        · refine lv_iconst (v := (-1)) hx hb dX11_copy_22 (by decide) ?_
          have hP9 := hP.sub (ws' := []) [] rfl
          have hD9 := hD.sub (ws' := []) [] (by decide) rfl
          have hK9 := hK.sub (tys' := []) [] rfl
          exact W.iret (v := (-1)) hx hb hr (fun tZ htZ hW => ⟨⟨(-1), (), rfl, (by unfold an_copy; first | rfl | ((repeat' split) <;> first | rfl | (exfalso; (try simp only [fa_lt, fa_le, fa_eq, ti_0, ti_1, ti_2, ti_3, ti_4, ti_5, ti_6, ti_8, ti_9, ti_10, ti_12, ti_18, ti_59, ti_60, ti_100, ti_127, ti_m1, ti_m2, ti_m3, ti_m4, ti_m5, ti_m10, ti_m11, ti_m12, ti_m13, ti_m14] at b_3); (try simp only [fa_lt, fa_le, fa_eq, ti_0, ti_1, ti_2, ti_3, ti_4, ti_5, ti_6, ti_8, ti_9, ti_10, ti_12, ti_18, ti_59, ti_60, ti_100, ti_127, ti_m1, ti_m2, ti_m3, ti_m4, ti_m5, ti_m10, ti_m11, ti_m12, ti_m13, ti_m14] at c_4); (try simp only [fa_lt, fa_le, fa_eq, ti_0, ti_1, ti_2, ti_3, ti_4, ti_5, ti_6, ti_8, ti_9, ti_10, ti_12, ti_18, ti_59, ti_60, ti_100, ti_127, ti_m1, ti_m2, ti_m3, ti_m4, ti_m5, ti_m10, ti_m11, ti_m12, ti_m13, ti_m14] at b_7); (try simp only [fa_lt, fa_le, fa_eq, ti_0, ti_1, ti_2, ti_3, ti_4, ti_5, ti_6, ti_8, ti_9, ti_10, ti_12, ti_18, ti_59, ti_60, ti_100, ti_127, ti_m1, ti_m2, ti_m3, ti_m4, ti_m5, ti_m10, ti_m11, ti_m12, ti_m13, ti_m14] at c_13); omega))), by rw [htZ]; exact hP9, va_K.moved hW.alike hK9, hD9⟩, hS.F htZ⟩) hS.2.2 dX11_copy_23
  · refine lv_if_eq (tgt := 22) hx hb dX11_copy_8 (by decide) (fun c_14 => ?_) (fun c_14 => ?_)
    · refine lv_iconst (v := (-1)) hx hb dX11_copy_22 (by decide) ?_
      have hP9 := hP.sub (ws' := []) [] rfl
      have hD9 := hD.sub (ws' := []) [] (by decide) rfl
      have hK9 := hK.sub (tys' := []) [] rfl
      exact W.iret (v := (-1)) hx hb hr (fun tZ htZ hW => ⟨⟨(-1), (), rfl, (by unfold an_copy; first | rfl | ((repeat' split) <;> first | rfl | (exfalso; (try simp only [fa_lt, fa_le, fa_eq, ti_0, ti_1, ti_2, ti_3, ti_4, ti_5, ti_6, ti_8, ti_9, ti_10, ti_12, ti_18, ti_59, ti_60, ti_100, ti_127, ti_m1, ti_m2, ti_m3, ti_m4, ti_m5, ti_m10, ti_m11, ti_m12, ti_m13, ti_m14] at b_3); (try simp only [fa_lt, fa_le, fa_eq, ti_0, ti_1, ti_2, ti_3, ti_4, ti_5, ti_6, ti_8, ti_9, ti_10, ti_12, ti_18, ti_59, ti_60, ti_100, ti_127, ti_m1, ti_m2, ti_m3, ti_m4, ti_m5, ti_m10, ti_m11, ti_m12, ti_m13, ti_m14] at c_14); omega))), by rw [htZ]; exact hP9, va_K.moved hW.alike hK9, hD9⟩, hS.F htZ⟩) hS.2.2 dX11_copy_23
    · exact absurd c_14 (by decide)
theorem dX11_allocate_0 : decode cX11_allocate 0 = .ok (.aload_n 0, 1) := by decide +kernel
theorem dX11_allocate_1 : decode cX11_allocate 1 = .ok (.getfield 37, 3) := by decide +kernel
theorem dX11_allocate_4 : decode cX11_allocate 4 = .ok (.iload_n 1, 1) := by decide +kernel
theorem dX11_allocate_5 : decode cX11_allocate 5 = .ok (.invokevirtual 307, 3) := by decide +kernel
theorem dX11_allocate_8 : decode cX11_allocate 8 = .ok (.ifCond .ne 5, 3) := by decide +kernel
theorem dX11_allocate_11 : decode cX11_allocate 11 = .ok (.iconst (-1), 1) := by decide +kernel
theorem dX11_allocate_12 : decode cX11_allocate 12 = .ok (.ireturn, 1) := by decide +kernel
theorem dX11_allocate_13 : decode cX11_allocate 13 = .ok (.iload_n 2, 1) := by decide +kernel
theorem dX11_allocate_14 : decode cX11_allocate 14 = .ok (.iconst (-1), 1) := by decide +kernel
theorem dX11_allocate_15 : decode cX11_allocate 15 = .ok (.if_icmp .ne 13, 3) := by decide +kernel
theorem dX11_allocate_18 : decode cX11_allocate 18 = .ok (.aload_n 0, 1) := by decide +kernel
theorem dX11_allocate_19 : decode cX11_allocate 19 = .ok (.getfield 37, 3) := by decide +kernel
theorem dX11_allocate_22 : decode cX11_allocate 22 = .ok (.iload_n 1, 1) := by decide +kernel
theorem dX11_allocate_23 : decode cX11_allocate 23 = .ok (.invokevirtual 328, 3) := by decide +kernel
theorem dX11_allocate_26 : decode cX11_allocate 26 = .ok (.iconst 1, 1) := by decide +kernel
theorem dX11_allocate_27 : decode cX11_allocate 27 = .ok (.ireturn, 1) := by decide +kernel
theorem dX11_allocate_28 : decode cX11_allocate 28 = .ok (.aload_n 0, 1) := by decide +kernel
theorem dX11_allocate_29 : decode cX11_allocate 29 = .ok (.getfield 37, 3) := by decide +kernel
theorem dX11_allocate_32 : decode cX11_allocate 32 = .ok (.iload_n 2, 1) := by decide +kernel
theorem dX11_allocate_33 : decode cX11_allocate 33 = .ok (.invokevirtual 331, 3) := by decide +kernel
theorem dX11_allocate_36 : decode cX11_allocate 36 = .ok (.ifCond .eq 9, 3) := by decide +kernel
theorem dX11_allocate_39 : decode cX11_allocate 39 = .ok (.iload_n 3, 1) := by decide +kernel
theorem dX11_allocate_40 : decode cX11_allocate 40 = .ok (.bipush 60, 2) := by decide +kernel
theorem dX11_allocate_42 : decode cX11_allocate 42 = .ok (.if_icmp .le 6, 3) := by decide +kernel
theorem dX11_allocate_45 : decode cX11_allocate 45 = .ok (.bipush (-2), 2) := by decide +kernel
theorem dX11_allocate_47 : decode cX11_allocate 47 = .ok (.ireturn, 1) := by decide +kernel
theorem dX11_allocate_48 : decode cX11_allocate 48 = .ok (.iload_n 3, 1) := by decide +kernel
theorem dX11_allocate_49 : decode cX11_allocate 49 = .ok (.ifCond .ge 6, 3) := by decide +kernel
theorem dX11_allocate_52 : decode cX11_allocate 52 = .ok (.bipush (-14), 2) := by decide +kernel
theorem dX11_allocate_54 : decode cX11_allocate 54 = .ok (.ireturn, 1) := by decide +kernel
theorem dX11_allocate_55 : decode cX11_allocate 55 = .ok (.aload_n 0, 1) := by decide +kernel
theorem dX11_allocate_56 : decode cX11_allocate 56 = .ok (.getfield 37, 3) := by decide +kernel
theorem dX11_allocate_59 : decode cX11_allocate 59 = .ok (.iload_n 1, 1) := by decide +kernel
theorem dX11_allocate_60 : decode cX11_allocate 60 = .ok (.iload_n 2, 1) := by decide +kernel
theorem dX11_allocate_61 : decode cX11_allocate 61 = .ok (.iload_n 3, 1) := by decide +kernel
theorem dX11_allocate_62 : decode cX11_allocate 62 = .ok (.invokevirtual 334, 3) := by decide +kernel
theorem dX11_allocate_65 : decode cX11_allocate 65 = .ok (.iconst 1, 1) := by decide +kernel
theorem dX11_allocate_66 : decode cX11_allocate 66 = .ok (.ireturn, 1) := by decide +kernel
def wo_X11_allocate : List Cond := [.fieldLink RX11 37 "DynamicLogicProver" "buffers" "LDynamicLogicProver$Buffers;", .methodLink RX11 307 yX0_has, .instanceMethod yX0_has, .selects RX0 yX0_has yX0_has, .initialized RX0, .methodLink RX11 331 yX0_isType, .instanceMethod yX0_isType, .selects RX0 yX0_isType yX0_isType, .methodLink RX11 334 yX0_renew, .instanceMethod yX0_renew, .selects RX0 yX0_renew yX0_renew, .methodLink RX11 328 yX0_discard, .instanceMethod yX0_discard, .selects RX0 yX0_discard yX0_discard]
def wd_X11_allocate : List Cond := .code yX11_allocate cX11_allocate 4 (some .int) :: (wo_X11_allocate ++ (wd_X0_has ++ (wd_X0_isType ++ (wd_X0_renew ++ (wd_X0_discard ++ (wsX110 ++ ([] : List Cond)))))))
theorem mo_X11_allocate {w : Cond} (i : Nat) (h : wo_X11_allocate[i]? = some w) : w ∈ wd_X11_allocate := List.mem_cons_of_mem _ (List.mem_append_left _ (List.mem_of_getElem? h))
theorem mb_X11_allocate_0 : ∀ w ∈ wd_X0_has, w ∈ wd_X11_allocate := fun w h => List.mem_cons_of_mem _ (List.mem_append_right _ (List.mem_append_left _ h))
theorem mb_X11_allocate_1 : ∀ w ∈ wd_X0_isType, w ∈ wd_X11_allocate := fun w h => List.mem_cons_of_mem _ (List.mem_append_right _ (List.mem_append_right _ (List.mem_append_left _ h)))
theorem mb_X11_allocate_2 : ∀ w ∈ wd_X0_renew, w ∈ wd_X11_allocate := fun w h => List.mem_cons_of_mem _ (List.mem_append_right _ (List.mem_append_right _ (List.mem_append_right _ (List.mem_append_left _ h))))
theorem mb_X11_allocate_3 : ∀ w ∈ wd_X0_discard, w ∈ wd_X11_allocate := fun w h => List.mem_cons_of_mem _ (List.mem_append_right _ (List.mem_append_right _ (List.mem_append_right _ (List.mem_append_right _ (List.mem_append_left _ h)))))
theorem mb_X11_allocate_4 : ∀ w ∈ wsX110, w ∈ wd_X11_allocate := fun w h => List.mem_cons_of_mem _ (List.mem_append_right _ (List.mem_append_right _ (List.mem_append_right _ (List.mem_append_right _ (List.mem_append_right _ (List.mem_append_left _ h))))))
theorem hd_X11_allocate : yX11_allocate.cls ≠ "java/lang/invoke/MethodHandle" ∧ yX11_allocate.cls ≠ "java/lang/invoke/VarHandle" ∧ (parseMethodDescriptor yX11_allocate.desc).map (fun d => d.parameters.length) = some 3 := by decide +kernel
set_option maxRecDepth 20000 in
theorem gw_X11_allocate : wd_X11_allocate.all goodWord = true := by decide +kernel
abbrev qc_X11_allocate (D : va_G) (x : Nat) (mo : Nat) (sm : Nat) (sc : Nat) (fo : Nat) (sf : Nat) (bu : Nat) (po : Nat) (te : Nat) (pa : Nat) (rw : Nat) (tr : Nat) (cl : Nat) (pt : Nat) (ru : Nat) (de : Nat) (ba : Nat) (bb : Nat) (bd : Nat) (kba : ClassId) (kbb : ClassId) (kbd : ClassId) (fba : Nat → Int32) (b : Int32) (y : Int32) (n : Int32) (A : Nat → Prop) : Array Value → State → Outcome → State → Prop := va_Qi (fun (r : Int32) (uZ : Unit) => r = an_allocate b y n) (fun uZ tZ => kc_pos D A [] [] tZ) A
set_option maxHeartbeats 4000000 in
set_option maxRecDepth 100000 in
theorem ct_X11_allocate (l : Launch) (D : va_G) (x : Nat) (mo : Nat) (sm : Nat) (sc : Nat) (fo : Nat) (sf : Nat) (bu : Nat) (po : Nat) (te : Nat) (pa : Nat) (rw : Nat) (tr : Nat) (cl : Nat) (pt : Nat) (ru : Nat) (de : Nat) (ba : Nat) (bb : Nat) (bd : Nat) (kba : ClassId) (kbb : ClassId) (kbd : ClassId) (fba : Nat → Int32) (b : Int32) (y : Int32) (n : Int32) (sz : Nat)  : Met l yX11_allocate wd_X11_allocate ({ frames := 2, cells := 0, slots := 0, locals := 47 }) (va_Pc [.ref x, .int b, .int y, .int n] (kc_pre D [(kba, .int), (kbb, .int), (kbd, .long)] [(x, .inr (11, [.ref mo, .ref sm, .ref sc, .ref fo, .ref sf, .ref bu, .ref po, .ref te, .ref pa, .ref rw, .ref tr, .ref cl, .ref pt, .ref ru, .ref de, .int 0, .int 0])), (bu, .inr (0, [.ref ba, .ref bb, .ref bd])), (ba, .inl (kba, 6, .inl fba)), (bb, .inl (kbb, 6, .inl (fun _ => 0))), (bd, .inl (kbd, 360, .inr (.inl (fun _ => 0))))] sz)) (qc_X11_allocate D x mo sm sc fo sf bu po te pa rw tr cl pt ru de ba bb bd kba kbb kbd fba b y n (va_A [(x, .inr (11, [.ref mo, .ref sm, .ref sc, .ref fo, .ref sf, .ref bu, .ref po, .ref te, .ref pa, .ref rw, .ref tr, .ref cl, .ref pt, .ref ru, .ref de, .int 0, .int 0])), (bu, .inr (0, [.ref ba, .ref bb, .ref bd])), (ba, .inl (kba, 6, .inl fba)), (bb, .inl (kbb, 6, .inl (fun _ => 0))), (bd, .inl (kbd, 360, .inr (.inl (fun _ => 0))))] sz)) 0 0 (va_A [(x, .inr (11, [.ref mo, .ref sm, .ref sc, .ref fo, .ref sf, .ref bu, .ref po, .ref te, .ref pa, .ref rw, .ref tr, .ref cl, .ref pt, .ref ru, .ref de, .int 0, .int 0])), (bu, .inr (0, [.ref ba, .ref bb, .ref bd])), (ba, .inl (kba, 6, .inl fba)), (bb, .inl (kbb, 6, .inl (fun _ => 0))), (bd, .inl (kbd, 360, .inr (.inl (fun _ => 0))))] sz) := by
  refine Met.ofW (cc := cX11_allocate) (maxL := 4) (ret := (some .int)) (by decide) rfl ?_
  intro p e s m args below meth c s₁ B hml hv
  obtain ⟨rfl, hsz, hP, hK, hN, hD0⟩ := hv
  have hx := B.exec
  have hb := B.bytes
  have hr := B.returns
  have hts := atoms_spec (ws := wd_X11_allocate) B.pre
  have hown : s.vm.findClass RX11 = some m.cls := findClass_of_methodNamed B.named
  have hlocks := B.notSynchronized
  subst hsz
  have hD := hD0.self (sz := s.heap.size)
  generalize hAe : va_A [(x, .inr (11, [.ref mo, .ref sm, .ref sc, .ref fo, .ref sf, .ref bu, .ref po, .ref te, .ref pa, .ref rw, .ref tr, .ref cl, .ref pt, .ref ru, .ref de, .int 0, .int 0])), (bu, .inr (0, [.ref ba, .ref bb, .ref bd])), (ba, .inl (kba, 6, .inl fba)), (bb, .inl (kbb, 6, .inl (fun _ => 0))), (bd, .inl (kbd, 360, .inr (.inl (fun _ => 0))))] s.heap.size = A at hD ⊢
  have hA : ∀ q : Nat, s.heap.size ≤ q → A q := fun q h => by rw [← hAe]; exact Or.inr h
  have hS : va_S A s.heap s.heap [] := va_S.rf
  have hiX11 : ∀ w ∈ wsX110, w ∈ wd_X11_allocate := mb_X11_allocate_4
  have hl := lv_entry ([.ref x, .int b, .int y, .int n]) (n := 4) (Nat.le_of_ble_eq_true rfl)
  rw [lg_entry_eq]
  generalize (lg_sl ([.ref x, .int b, .int y, .int n]) ++ List.replicate (4 - (lg_sl ([.ref x, .int b, .int y, .int n])).length) Slot.unset).toArray = ls at hl ⊢
  have hl : lv_has ls 4 [(0, .ref x), (1, .int b), (2, .int y), (3, .int n)] := hl
  refine lv_aload_n hx hb dX11_allocate_0 rfl (lv_at hl 0 rfl) ?_
  refine va_get (D := D) (ci := 11) (v := .ref bu) (C := RX11) (T := TX11) (N := 17) hx hb hts hiX11 hown hK hP 0 rfl rfl 5 (by decide) (hts (.fieldLink RX11 37 "DynamicLogicProver" "buffers" "LDynamicLogicProver$Buffers;") (mo_X11_allocate 0 rfl)) (fun _ h9 => h9) rfl dX11_allocate_1 ?_
  refine lv_iload_n hx hb dX11_allocate_4 rfl (lv_at hl 1 rfl) ?_
  refine kc_Vi (As := [.int b]) (rest := []) (wr := [(x, .inr (11, [.ref mo, .ref sm, .ref sc, .ref fo, .ref sf, .ref bu, .ref po, .ref te, .ref pa, .ref rw, .ref tr, .ref cl, .ref pt, .ref ru, .ref de, .int 0, .int 0])), (ba, .inl (kba, 6, .inl fba)), (bb, .inl (kbb, 6, .inl (fun _ => 0))), (bd, .inl (kbd, 360, .inr (.inl (fun _ => 0))))]) ⟨hx, hb, hml, hown, hts⟩ (ct_X0_has l D bu ba bb bd b _ ) (cwV 1 hts (kg_V (mo_X11_allocate 1 rfl) (mo_X11_allocate 2 rfl) (mo_X11_allocate 3 rfl) (mo_X11_allocate 4 rfl) (goodIn_sub mb_X11_allocate_0 gw_X0_has)) rfl rfl rfl ⟨rfl, hd_X0_has⟩ ⟨Nat.le_of_ble_eq_true rfl, Nat.le_of_ble_eq_true rfl⟩) (RX0, TX0, 3) 0 1 rfl rfl rfl hK hN hP hD hS hA [1] [0, 2, 3, 4] [] rfl rfl (by decide) (by decide) (by decide) rfl rfl hl.1 rfl (Nat.le_of_ble_eq_true rfl) dX11_allocate_5 ⟨Nat.le_of_ble_eq_true rfl, Nat.le_of_ble_eq_true rfl⟩ (fun r_1 u_2 H locs w_3 hP hD hK1 hS => ?_)
  have hP : va_P D vwCl [(x, .inr (11, [.ref mo, .ref sm, .ref sc, .ref fo, .ref sf, .ref bu, .ref po, .ref te, .ref pa, .ref rw, .ref tr, .ref cl, .ref pt, .ref ru, .ref de, .int 0, .int 0])), (ba, .inl (kba, 6, .inl fba)), (bb, .inl (kbb, 6, .inl (fun _ => 0))), (bd, .inl (kbd, 360, .inr (.inl (fun _ => 0)))), (bu, .inr (0, [.ref ba, .ref bb, .ref bd]))] H := hP
  have hD : va_D A [(x, .inr (11, [.ref mo, .ref sm, .ref sc, .ref fo, .ref sf, .ref bu, .ref po, .ref te, .ref pa, .ref rw, .ref tr, .ref cl, .ref pt, .ref ru, .ref de, .int 0, .int 0])), (ba, .inl (kba, 6, .inl fba)), (bb, .inl (kbb, 6, .inl (fun _ => 0))), (bd, .inl (kbd, 360, .inr (.inl (fun _ => 0)))), (bu, .inr (0, [.ref ba, .ref bb, .ref bd]))] := hD
  have w_3 : (r_1 = 1 ∧ (0 ≤ b ∧ b < 6)) ∨ (r_1 = 0 ∧ ¬ (0 ≤ b ∧ b < 6)) := w_3
  rcases w_3 with ⟨rfl, b_3⟩ | ⟨rfl, b_3⟩
  · refine lv_if_ne (tgt := 13) hx hb dX11_allocate_8 (by decide) (fun c_4 => ?_) (fun c_4 => ?_)
    · refine lv_iload_n hx hb dX11_allocate_13 rfl (lv_at hl 2 rfl) ?_
      refine lv_iconst (v := (-1)) hx hb dX11_allocate_14 (by decide) ?_
      refine lv_icmp_ne (tgt := 28) hx hb dX11_allocate_15 (by decide) (fun c_5 => ?_) (fun c_5 => ?_)
      · refine lv_aload_n hx hb dX11_allocate_28 rfl (lv_at hl 0 rfl) ?_
        refine va_get (D := D) (ci := 11) (v := .ref bu) (C := RX11) (T := TX11) (N := 17) hx hb hts hiX11 hown hK hP 0 rfl rfl 5 (by decide) (hts (.fieldLink RX11 37 "DynamicLogicProver" "buffers" "LDynamicLogicProver$Buffers;") (mo_X11_allocate 0 rfl)) (fun _ h9 => h9) rfl dX11_allocate_29 ?_
        refine lv_iload_n hx hb dX11_allocate_32 rfl (lv_at hl 2 rfl) ?_
        refine kc_Vi (As := [.int y]) (rest := []) (wr := [(x, .inr (11, [.ref mo, .ref sm, .ref sc, .ref fo, .ref sf, .ref bu, .ref po, .ref te, .ref pa, .ref rw, .ref tr, .ref cl, .ref pt, .ref ru, .ref de, .int 0, .int 0])), (ba, .inl (kba, 6, .inl fba)), (bb, .inl (kbb, 6, .inl (fun _ => 0))), (bd, .inl (kbd, 360, .inr (.inl (fun _ => 0))))]) ⟨hx, hb, hml, hown, hts⟩ (ct_X0_isType l D bu ba bb bd y _ ) (cwV 1 hts (kg_V (mo_X11_allocate 5 rfl) (mo_X11_allocate 6 rfl) (mo_X11_allocate 7 rfl) (mo_X11_allocate 4 rfl) (goodIn_sub mb_X11_allocate_1 gw_X0_isType)) rfl rfl rfl ⟨rfl, hd_X0_isType⟩ ⟨Nat.le_of_ble_eq_true rfl, Nat.le_of_ble_eq_true rfl⟩) (RX0, TX0, 3) 0 4 rfl rfl rfl hK hN hP hD hS hA [4] [0, 1, 2, 3] [] rfl rfl (by decide) (by decide) (by decide) rfl rfl hl.1 rfl (Nat.le_of_ble_eq_true rfl) dX11_allocate_33 ⟨Nat.le_of_ble_eq_true rfl, Nat.le_of_ble_eq_true rfl⟩ (fun r_6 u_7 H locs w_8 hP hD hK1 hS => ?_)
        have hP : va_P D vwCl [(x, .inr (11, [.ref mo, .ref sm, .ref sc, .ref fo, .ref sf, .ref bu, .ref po, .ref te, .ref pa, .ref rw, .ref tr, .ref cl, .ref pt, .ref ru, .ref de, .int 0, .int 0])), (ba, .inl (kba, 6, .inl fba)), (bb, .inl (kbb, 6, .inl (fun _ => 0))), (bd, .inl (kbd, 360, .inr (.inl (fun _ => 0)))), (bu, .inr (0, [.ref ba, .ref bb, .ref bd]))] H := hP
        have hD : va_D A [(x, .inr (11, [.ref mo, .ref sm, .ref sc, .ref fo, .ref sf, .ref bu, .ref po, .ref te, .ref pa, .ref rw, .ref tr, .ref cl, .ref pt, .ref ru, .ref de, .int 0, .int 0])), (ba, .inl (kba, 6, .inl fba)), (bb, .inl (kbb, 6, .inl (fun _ => 0))), (bd, .inl (kbd, 360, .inr (.inl (fun _ => 0)))), (bu, .inr (0, [.ref ba, .ref bb, .ref bd]))] := hD
        have w_8 : (r_6 = 1 ∧ (0 ≤ y ∧ y < 5)) ∨ (r_6 = 0 ∧ ¬ (0 ≤ y ∧ y < 5)) := w_8
        rcases w_8 with ⟨rfl, b_8⟩ | ⟨rfl, b_8⟩
        · refine lv_if_eq (tgt := 45) hx hb dX11_allocate_36 (by decide) (fun c_9 => ?_) (fun c_9 => ?_)
          · exact absurd c_9 (by decide)
          · refine lv_iload_n hx hb dX11_allocate_39 rfl (lv_at hl 3 rfl) ?_
            refine lv_bipush (v := 60) hx hb dX11_allocate_40 (by decide) ?_
            refine lv_icmp_le (tgt := 48) hx hb dX11_allocate_42 (by decide) (fun c_10 => ?_) (fun c_10 => ?_)
            · refine lv_iload_n hx hb dX11_allocate_48 rfl (lv_at hl 3 rfl) ?_
              refine lv_if_ge (tgt := 55) hx hb dX11_allocate_49 (by decide) (fun c_11 => ?_) (fun c_11 => ?_)
              · refine lv_aload_n hx hb dX11_allocate_55 rfl (lv_at hl 0 rfl) ?_
                refine va_get (D := D) (ci := 11) (v := .ref bu) (C := RX11) (T := TX11) (N := 17) hx hb hts hiX11 hown hK hP 0 rfl rfl 5 (by decide) (hts (.fieldLink RX11 37 "DynamicLogicProver" "buffers" "LDynamicLogicProver$Buffers;") (mo_X11_allocate 0 rfl)) (fun _ h9 => h9) rfl dX11_allocate_56 ?_
                refine lv_iload_n hx hb dX11_allocate_59 rfl (lv_at hl 1 rfl) ?_
                refine lv_iload_n hx hb dX11_allocate_60 rfl (lv_at hl 2 rfl) ?_
                refine lv_iload_n hx hb dX11_allocate_61 rfl (lv_at hl 3 rfl) ?_
                refine kc_Vv (As := [.int b, .int y, .int n]) (rest := []) (wr := [(x, .inr (11, [.ref mo, .ref sm, .ref sc, .ref fo, .ref sf, .ref bu, .ref po, .ref te, .ref pa, .ref rw, .ref tr, .ref cl, .ref pt, .ref ru, .ref de, .int 0, .int 0]))]) ⟨hx, hb, hml, hown, hts⟩ (ct_X0_renew l D bu ba bb bd kba kbb kbd fba (fun _ => 0) (fun _ => 0) b y n _ ) (cwV 3 hts (kg_V (mo_X11_allocate 8 rfl) (mo_X11_allocate 9 rfl) (mo_X11_allocate 10 rfl) (mo_X11_allocate 4 rfl) (goodIn_sub mb_X11_allocate_2 gw_X0_renew)) rfl rfl rfl ⟨rfl, hd_X0_renew⟩ ⟨Nat.le_of_ble_eq_true rfl, Nat.le_of_ble_eq_true rfl⟩) (RX0, TX0, 3) 0 4 rfl rfl rfl hK hN hP hD hS hA [4, 1, 2, 3] [0] [0, 1, 2] rfl rfl (by decide) (by decide) (by decide) rfl rfl hl.1 rfl (Nat.le_of_ble_eq_true rfl) dX11_allocate_62 ⟨Nat.le_of_ble_eq_true rfl, Nat.le_of_ble_eq_true rfl⟩ (fun u_13 H locs w_14 hP hD hK1 hS => ?_)
                obtain ⟨o_15, o_16, o_17⟩ := u_13
                have hP : va_P D vwCl [(x, .inr (11, [.ref mo, .ref sm, .ref sc, .ref fo, .ref sf, .ref bu, .ref po, .ref te, .ref pa, .ref rw, .ref tr, .ref cl, .ref pt, .ref ru, .ref de, .int 0, .int 0])), (bu, .inr (0, [.ref ba, .ref bb, .ref bd])), (ba, .inl (kba, 6, .inl o_15)), (bb, .inl (kbb, 6, .inl o_16)), (bd, .inl (kbd, 360, .inr (.inl o_17)))] H := hP
                have hD : va_D A [(x, .inr (11, [.ref mo, .ref sm, .ref sc, .ref fo, .ref sf, .ref bu, .ref po, .ref te, .ref pa, .ref rw, .ref tr, .ref cl, .ref pt, .ref ru, .ref de, .int 0, .int 0])), (bu, .inr (0, [.ref ba, .ref bb, .ref bd])), (ba, .inl (kba, 6, .inl o_15)), (bb, .inl (kbb, 6, .inl o_16)), (bd, .inl (kbd, 360, .inr (.inl o_17)))] := hD
                refine lv_iconst (v := 1) hx hb dX11_allocate_65 (by decide) ?_
                have hP9 := hP.sub (ws' := []) [] rfl
                have hD9 := hD.sub (ws' := []) [] (by decide) rfl
                have hK9 := hK.sub (tys' := []) [] rfl
                exact W.iret (v := 1) hx hb hr (fun tZ htZ hW => ⟨⟨1, (), rfl, (by unfold an_allocate; first | rfl | ((repeat' split) <;> first | rfl | (exfalso; (try simp only [fa_lt, fa_le, fa_eq, ti_0, ti_1, ti_2, ti_3, ti_4, ti_5, ti_6, ti_8, ti_9, ti_10, ti_12, ti_18, ti_59, ti_60, ti_100, ti_127, ti_m1, ti_m2, ti_m3, ti_m4, ti_m5, ti_m10, ti_m11, ti_m12, ti_m13, ti_m14] at b_3); (try simp only [fa_lt, fa_le, fa_eq, ti_0, ti_1, ti_2, ti_3, ti_4, ti_5, ti_6, ti_8, ti_9, ti_10, ti_12, ti_18, ti_59, ti_60, ti_100, ti_127, ti_m1, ti_m2, ti_m3, ti_m4, ti_m5, ti_m10, ti_m11, ti_m12, ti_m13, ti_m14] at c_4); (try simp only [fa_lt, fa_le, fa_eq, ti_0, ti_1, ti_2, ti_3, ti_4, ti_5, ti_6, ti_8, ti_9, ti_10, ti_12, ti_18, ti_59, ti_60, ti_100, ti_127, ti_m1, ti_m2, ti_m3, ti_m4, ti_m5, ti_m10, ti_m11, ti_m12, ti_m13, ti_m14] at c_5); (try simp only [fa_lt, fa_le, fa_eq, ti_0, ti_1, ti_2, ti_3, ti_4, ti_5, ti_6, ti_8, ti_9, ti_10, ti_12, ti_18, ti_59, ti_60, ti_100, ti_127, ti_m1, ti_m2, ti_m3, ti_m4, ti_m5, ti_m10, ti_m11, ti_m12, ti_m13, ti_m14] at b_8); (try simp only [fa_lt, fa_le, fa_eq, ti_0, ti_1, ti_2, ti_3, ti_4, ti_5, ti_6, ti_8, ti_9, ti_10, ti_12, ti_18, ti_59, ti_60, ti_100, ti_127, ti_m1, ti_m2, ti_m3, ti_m4, ti_m5, ti_m10, ti_m11, ti_m12, ti_m13, ti_m14] at c_9); (try simp only [fa_lt, fa_le, fa_eq, ti_0, ti_1, ti_2, ti_3, ti_4, ti_5, ti_6, ti_8, ti_9, ti_10, ti_12, ti_18, ti_59, ti_60, ti_100, ti_127, ti_m1, ti_m2, ti_m3, ti_m4, ti_m5, ti_m10, ti_m11, ti_m12, ti_m13, ti_m14] at c_10); (try simp only [fa_lt, fa_le, fa_eq, ti_0, ti_1, ti_2, ti_3, ti_4, ti_5, ti_6, ti_8, ti_9, ti_10, ti_12, ti_18, ti_59, ti_60, ti_100, ti_127, ti_m1, ti_m2, ti_m3, ti_m4, ti_m5, ti_m10, ti_m11, ti_m12, ti_m13, ti_m14] at c_11); omega))), by rw [htZ]; exact hP9, va_K.moved hW.alike hK9, hD9⟩, hS.F htZ⟩) hS.2.2 dX11_allocate_66
              · refine lv_bipush (v := (-14)) hx hb dX11_allocate_52 (by decide) ?_
                have hP9 := hP.sub (ws' := []) [] rfl
                have hD9 := hD.sub (ws' := []) [] (by decide) rfl
                have hK9 := hK.sub (tys' := []) [] rfl
                exact W.iret (v := (-14)) hx hb hr (fun tZ htZ hW => ⟨⟨(-14), (), rfl, (by unfold an_allocate; first | rfl | ((repeat' split) <;> first | rfl | (exfalso; (try simp only [fa_lt, fa_le, fa_eq, ti_0, ti_1, ti_2, ti_3, ti_4, ti_5, ti_6, ti_8, ti_9, ti_10, ti_12, ti_18, ti_59, ti_60, ti_100, ti_127, ti_m1, ti_m2, ti_m3, ti_m4, ti_m5, ti_m10, ti_m11, ti_m12, ti_m13, ti_m14] at b_3); (try simp only [fa_lt, fa_le, fa_eq, ti_0, ti_1, ti_2, ti_3, ti_4, ti_5, ti_6, ti_8, ti_9, ti_10, ti_12, ti_18, ti_59, ti_60, ti_100, ti_127, ti_m1, ti_m2, ti_m3, ti_m4, ti_m5, ti_m10, ti_m11, ti_m12, ti_m13, ti_m14] at c_4); (try simp only [fa_lt, fa_le, fa_eq, ti_0, ti_1, ti_2, ti_3, ti_4, ti_5, ti_6, ti_8, ti_9, ti_10, ti_12, ti_18, ti_59, ti_60, ti_100, ti_127, ti_m1, ti_m2, ti_m3, ti_m4, ti_m5, ti_m10, ti_m11, ti_m12, ti_m13, ti_m14] at c_5); (try simp only [fa_lt, fa_le, fa_eq, ti_0, ti_1, ti_2, ti_3, ti_4, ti_5, ti_6, ti_8, ti_9, ti_10, ti_12, ti_18, ti_59, ti_60, ti_100, ti_127, ti_m1, ti_m2, ti_m3, ti_m4, ti_m5, ti_m10, ti_m11, ti_m12, ti_m13, ti_m14] at b_8); (try simp only [fa_lt, fa_le, fa_eq, ti_0, ti_1, ti_2, ti_3, ti_4, ti_5, ti_6, ti_8, ti_9, ti_10, ti_12, ti_18, ti_59, ti_60, ti_100, ti_127, ti_m1, ti_m2, ti_m3, ti_m4, ti_m5, ti_m10, ti_m11, ti_m12, ti_m13, ti_m14] at c_9); (try simp only [fa_lt, fa_le, fa_eq, ti_0, ti_1, ti_2, ti_3, ti_4, ti_5, ti_6, ti_8, ti_9, ti_10, ti_12, ti_18, ti_59, ti_60, ti_100, ti_127, ti_m1, ti_m2, ti_m3, ti_m4, ti_m5, ti_m10, ti_m11, ti_m12, ti_m13, ti_m14] at c_10); (try simp only [fa_lt, fa_le, fa_eq, ti_0, ti_1, ti_2, ti_3, ti_4, ti_5, ti_6, ti_8, ti_9, ti_10, ti_12, ti_18, ti_59, ti_60, ti_100, ti_127, ti_m1, ti_m2, ti_m3, ti_m4, ti_m5, ti_m10, ti_m11, ti_m12, ti_m13, ti_m14] at c_11); omega))), by rw [htZ]; exact hP9, va_K.moved hW.alike hK9, hD9⟩, hS.F htZ⟩) hS.2.2 dX11_allocate_54
            · refine lv_bipush (v := (-2)) hx hb dX11_allocate_45 (by decide) ?_
              have hP9 := hP.sub (ws' := []) [] rfl
              have hD9 := hD.sub (ws' := []) [] (by decide) rfl
              have hK9 := hK.sub (tys' := []) [] rfl
              exact W.iret (v := (-2)) hx hb hr (fun tZ htZ hW => ⟨⟨(-2), (), rfl, (by unfold an_allocate; first | rfl | ((repeat' split) <;> first | rfl | (exfalso; (try simp only [fa_lt, fa_le, fa_eq, ti_0, ti_1, ti_2, ti_3, ti_4, ti_5, ti_6, ti_8, ti_9, ti_10, ti_12, ti_18, ti_59, ti_60, ti_100, ti_127, ti_m1, ti_m2, ti_m3, ti_m4, ti_m5, ti_m10, ti_m11, ti_m12, ti_m13, ti_m14] at b_3); (try simp only [fa_lt, fa_le, fa_eq, ti_0, ti_1, ti_2, ti_3, ti_4, ti_5, ti_6, ti_8, ti_9, ti_10, ti_12, ti_18, ti_59, ti_60, ti_100, ti_127, ti_m1, ti_m2, ti_m3, ti_m4, ti_m5, ti_m10, ti_m11, ti_m12, ti_m13, ti_m14] at c_4); (try simp only [fa_lt, fa_le, fa_eq, ti_0, ti_1, ti_2, ti_3, ti_4, ti_5, ti_6, ti_8, ti_9, ti_10, ti_12, ti_18, ti_59, ti_60, ti_100, ti_127, ti_m1, ti_m2, ti_m3, ti_m4, ti_m5, ti_m10, ti_m11, ti_m12, ti_m13, ti_m14] at c_5); (try simp only [fa_lt, fa_le, fa_eq, ti_0, ti_1, ti_2, ti_3, ti_4, ti_5, ti_6, ti_8, ti_9, ti_10, ti_12, ti_18, ti_59, ti_60, ti_100, ti_127, ti_m1, ti_m2, ti_m3, ti_m4, ti_m5, ti_m10, ti_m11, ti_m12, ti_m13, ti_m14] at b_8); (try simp only [fa_lt, fa_le, fa_eq, ti_0, ti_1, ti_2, ti_3, ti_4, ti_5, ti_6, ti_8, ti_9, ti_10, ti_12, ti_18, ti_59, ti_60, ti_100, ti_127, ti_m1, ti_m2, ti_m3, ti_m4, ti_m5, ti_m10, ti_m11, ti_m12, ti_m13, ti_m14] at c_9); (try simp only [fa_lt, fa_le, fa_eq, ti_0, ti_1, ti_2, ti_3, ti_4, ti_5, ti_6, ti_8, ti_9, ti_10, ti_12, ti_18, ti_59, ti_60, ti_100, ti_127, ti_m1, ti_m2, ti_m3, ti_m4, ti_m5, ti_m10, ti_m11, ti_m12, ti_m13, ti_m14] at c_10); omega))), by rw [htZ]; exact hP9, va_K.moved hW.alike hK9, hD9⟩, hS.F htZ⟩) hS.2.2 dX11_allocate_47
        · refine lv_if_eq (tgt := 45) hx hb dX11_allocate_36 (by decide) (fun c_18 => ?_) (fun c_18 => ?_)
          · refine lv_bipush (v := (-2)) hx hb dX11_allocate_45 (by decide) ?_
            have hP9 := hP.sub (ws' := []) [] rfl
            have hD9 := hD.sub (ws' := []) [] (by decide) rfl
            have hK9 := hK.sub (tys' := []) [] rfl
            exact W.iret (v := (-2)) hx hb hr (fun tZ htZ hW => ⟨⟨(-2), (), rfl, (by unfold an_allocate; first | rfl | ((repeat' split) <;> first | rfl | (exfalso; (try simp only [fa_lt, fa_le, fa_eq, ti_0, ti_1, ti_2, ti_3, ti_4, ti_5, ti_6, ti_8, ti_9, ti_10, ti_12, ti_18, ti_59, ti_60, ti_100, ti_127, ti_m1, ti_m2, ti_m3, ti_m4, ti_m5, ti_m10, ti_m11, ti_m12, ti_m13, ti_m14] at b_3); (try simp only [fa_lt, fa_le, fa_eq, ti_0, ti_1, ti_2, ti_3, ti_4, ti_5, ti_6, ti_8, ti_9, ti_10, ti_12, ti_18, ti_59, ti_60, ti_100, ti_127, ti_m1, ti_m2, ti_m3, ti_m4, ti_m5, ti_m10, ti_m11, ti_m12, ti_m13, ti_m14] at c_4); (try simp only [fa_lt, fa_le, fa_eq, ti_0, ti_1, ti_2, ti_3, ti_4, ti_5, ti_6, ti_8, ti_9, ti_10, ti_12, ti_18, ti_59, ti_60, ti_100, ti_127, ti_m1, ti_m2, ti_m3, ti_m4, ti_m5, ti_m10, ti_m11, ti_m12, ti_m13, ti_m14] at c_5); (try simp only [fa_lt, fa_le, fa_eq, ti_0, ti_1, ti_2, ti_3, ti_4, ti_5, ti_6, ti_8, ti_9, ti_10, ti_12, ti_18, ti_59, ti_60, ti_100, ti_127, ti_m1, ti_m2, ti_m3, ti_m4, ti_m5, ti_m10, ti_m11, ti_m12, ti_m13, ti_m14] at b_8); (try simp only [fa_lt, fa_le, fa_eq, ti_0, ti_1, ti_2, ti_3, ti_4, ti_5, ti_6, ti_8, ti_9, ti_10, ti_12, ti_18, ti_59, ti_60, ti_100, ti_127, ti_m1, ti_m2, ti_m3, ti_m4, ti_m5, ti_m10, ti_m11, ti_m12, ti_m13, ti_m14] at c_18); omega))), by rw [htZ]; exact hP9, va_K.moved hW.alike hK9, hD9⟩, hS.F htZ⟩) hS.2.2 dX11_allocate_47
          · exact absurd c_18 (by decide)
      · refine lv_aload_n hx hb dX11_allocate_18 rfl (lv_at hl 0 rfl) ?_
        refine va_get (D := D) (ci := 11) (v := .ref bu) (C := RX11) (T := TX11) (N := 17) hx hb hts hiX11 hown hK hP 0 rfl rfl 5 (by decide) (hts (.fieldLink RX11 37 "DynamicLogicProver" "buffers" "LDynamicLogicProver$Buffers;") (mo_X11_allocate 0 rfl)) (fun _ h9 => h9) rfl dX11_allocate_19 ?_
        refine lv_iload_n hx hb dX11_allocate_22 rfl (lv_at hl 1 rfl) ?_
        refine kc_Vv (As := [.int b]) (rest := []) (wr := [(x, .inr (11, [.ref mo, .ref sm, .ref sc, .ref fo, .ref sf, .ref bu, .ref po, .ref te, .ref pa, .ref rw, .ref tr, .ref cl, .ref pt, .ref ru, .ref de, .int 0, .int 0])), (bd, .inl (kbd, 360, .inr (.inl (fun _ => 0))))]) ⟨hx, hb, hml, hown, hts⟩ (ct_X0_discard l D bu ba bb bd kba kbb fba (fun _ => 0) b _ ) (cwV 1 hts (kg_V (mo_X11_allocate 11 rfl) (mo_X11_allocate 12 rfl) (mo_X11_allocate 13 rfl) (mo_X11_allocate 4 rfl) (goodIn_sub mb_X11_allocate_3 gw_X0_discard)) rfl rfl rfl ⟨rfl, hd_X0_discard⟩ ⟨Nat.le_of_ble_eq_true rfl, Nat.le_of_ble_eq_true rfl⟩) (RX0, TX0, 3) 0 4 rfl rfl rfl hK hN hP hD hS hA [4, 1, 2] [0, 3] [0, 1] rfl rfl (by decide) (by decide) (by decide) rfl rfl hl.1 rfl (Nat.le_of_ble_eq_true rfl) dX11_allocate_23 ⟨Nat.le_of_ble_eq_true rfl, Nat.le_of_ble_eq_true rfl⟩ (fun u_20 H locs w_21 hP hD hK1 hS => ?_)
        obtain ⟨o_22, o_23⟩ := u_20
        have hP : va_P D vwCl [(x, .inr (11, [.ref mo, .ref sm, .ref sc, .ref fo, .ref sf, .ref bu, .ref po, .ref te, .ref pa, .ref rw, .ref tr, .ref cl, .ref pt, .ref ru, .ref de, .int 0, .int 0])), (bd, .inl (kbd, 360, .inr (.inl (fun _ => 0)))), (bu, .inr (0, [.ref ba, .ref bb, .ref bd])), (ba, .inl (kba, 6, .inl o_22)), (bb, .inl (kbb, 6, .inl o_23))] H := hP
        have hD : va_D A [(x, .inr (11, [.ref mo, .ref sm, .ref sc, .ref fo, .ref sf, .ref bu, .ref po, .ref te, .ref pa, .ref rw, .ref tr, .ref cl, .ref pt, .ref ru, .ref de, .int 0, .int 0])), (bd, .inl (kbd, 360, .inr (.inl (fun _ => 0)))), (bu, .inr (0, [.ref ba, .ref bb, .ref bd])), (ba, .inl (kba, 6, .inl o_22)), (bb, .inl (kbb, 6, .inl o_23))] := hD
        refine lv_iconst (v := 1) hx hb dX11_allocate_26 (by decide) ?_
        have hP9 := hP.sub (ws' := []) [] rfl
        have hD9 := hD.sub (ws' := []) [] (by decide) rfl
        have hK9 := hK.sub (tys' := []) [] rfl
        exact W.iret (v := 1) hx hb hr (fun tZ htZ hW => ⟨⟨1, (), rfl, (by unfold an_allocate; first | rfl | ((repeat' split) <;> first | rfl | (exfalso; (try simp only [fa_lt, fa_le, fa_eq, ti_0, ti_1, ti_2, ti_3, ti_4, ti_5, ti_6, ti_8, ti_9, ti_10, ti_12, ti_18, ti_59, ti_60, ti_100, ti_127, ti_m1, ti_m2, ti_m3, ti_m4, ti_m5, ti_m10, ti_m11, ti_m12, ti_m13, ti_m14] at b_3); (try simp only [fa_lt, fa_le, fa_eq, ti_0, ti_1, ti_2, ti_3, ti_4, ti_5, ti_6, ti_8, ti_9, ti_10, ti_12, ti_18, ti_59, ti_60, ti_100, ti_127, ti_m1, ti_m2, ti_m3, ti_m4, ti_m5, ti_m10, ti_m11, ti_m12, ti_m13, ti_m14] at c_4); (try simp only [fa_lt, fa_le, fa_eq, ti_0, ti_1, ti_2, ti_3, ti_4, ti_5, ti_6, ti_8, ti_9, ti_10, ti_12, ti_18, ti_59, ti_60, ti_100, ti_127, ti_m1, ti_m2, ti_m3, ti_m4, ti_m5, ti_m10, ti_m11, ti_m12, ti_m13, ti_m14] at c_5); omega))), by rw [htZ]; exact hP9, va_K.moved hW.alike hK9, hD9⟩, hS.F htZ⟩) hS.2.2 dX11_allocate_27
    · exact absurd c_4 (by decide)
  · refine lv_if_ne (tgt := 13) hx hb dX11_allocate_8 (by decide) (fun c_24 => ?_) (fun c_24 => ?_)
    · exact absurd c_24 (by decide)
    · refine lv_iconst (v := (-1)) hx hb dX11_allocate_11 (by decide) ?_
      have hP9 := hP.sub (ws' := []) [] rfl
      have hD9 := hD.sub (ws' := []) [] (by decide) rfl
      have hK9 := hK.sub (tys' := []) [] rfl
      exact W.iret (v := (-1)) hx hb hr (fun tZ htZ hW => ⟨⟨(-1), (), rfl, (by unfold an_allocate; first | rfl | ((repeat' split) <;> first | rfl | (exfalso; (try simp only [fa_lt, fa_le, fa_eq, ti_0, ti_1, ti_2, ti_3, ti_4, ti_5, ti_6, ti_8, ti_9, ti_10, ti_12, ti_18, ti_59, ti_60, ti_100, ti_127, ti_m1, ti_m2, ti_m3, ti_m4, ti_m5, ti_m10, ti_m11, ti_m12, ti_m13, ti_m14] at b_3); (try simp only [fa_lt, fa_le, fa_eq, ti_0, ti_1, ti_2, ti_3, ti_4, ti_5, ti_6, ti_8, ti_9, ti_10, ti_12, ti_18, ti_59, ti_60, ti_100, ti_127, ti_m1, ti_m2, ti_m3, ti_m4, ti_m5, ti_m10, ti_m11, ti_m12, ti_m13, ti_m14] at c_24); omega))), by rw [htZ]; exact hP9, va_K.moved hW.alike hK9, hD9⟩, hS.F htZ⟩) hS.2.2 dX11_allocate_12
theorem dX11_save_0 : decode cX11_save 0 = .ok (.aload_n 0, 1) := by decide +kernel
theorem dX11_save_1 : decode cX11_save 1 = .ok (.getfield 18, 3) := by decide +kernel
theorem dX11_save_4 : decode cX11_save 4 = .ok (.aload_n 0, 1) := by decide +kernel
theorem dX11_save_5 : decode cX11_save 5 = .ok (.getfield 12, 3) := by decide +kernel
theorem dX11_save_8 : decode cX11_save 8 = .ok (.invokevirtual 282, 3) := by decide +kernel
theorem dX11_save_11 : decode cX11_save 11 = .ok (.aload_n 0, 1) := by decide +kernel
theorem dX11_save_12 : decode cX11_save 12 = .ok (.getfield 31, 3) := by decide +kernel
theorem dX11_save_15 : decode cX11_save 15 = .ok (.aload_n 0, 1) := by decide +kernel
theorem dX11_save_16 : decode cX11_save 16 = .ok (.getfield 27, 3) := by decide +kernel
theorem dX11_save_19 : decode cX11_save 19 = .ok (.invokevirtual 322, 3) := by decide +kernel
theorem dX11_save_22 : decode cX11_save 22 = .ok (.aload_n 0, 1) := by decide +kernel
theorem dX11_save_23 : decode cX11_save 23 = .ok (.iconst 1, 1) := by decide +kernel
theorem dX11_save_24 : decode cX11_save 24 = .ok (.putfield 113, 3) := by decide +kernel
theorem dX11_save_27 : decode cX11_save 27 = .ok (.aload_n 0, 1) := by decide +kernel
theorem dX11_save_28 : decode cX11_save 28 = .ok (.getfield 27, 3) := by decide +kernel
theorem dX11_save_31 : decode cX11_save 31 = .ok (.invokevirtual 219, 3) := by decide +kernel
theorem dX11_save_34 : decode cX11_save 34 = .ok (.ireturn, 1) := by decide +kernel
def wo_X11_save : List Cond := [.fieldLink RX11 18 "DynamicLogicProver" "savedModel" "LDynamicLogicProver$Model;", .fieldLink RX11 12 "DynamicLogicProver" "model" "LDynamicLogicProver$Model;", .methodLink RX11 282 yX3_take, .instanceMethod yX3_take, .selects RX3 yX3_take yX3_take, .initialized RX3, .fieldLink RX11 31 "DynamicLogicProver" "savedFormulas" "LDynamicLogicProver$Shelf;", .fieldLink RX11 27 "DynamicLogicProver" "formulas" "LDynamicLogicProver$Shelf;", .methodLink RX11 322 yX9_take, .instanceMethod yX9_take, .selects RX9 yX9_take yX9_take, .initialized RX9, .fieldLink RX11 113 "DynamicLogicProver" "saved" "Z", .methodLink RX11 219 yX9_size, .instanceMethod yX9_size, .selects RX9 yX9_size yX9_size]
def wd_X11_save : List Cond := .code yX11_save cX11_save 1 (some .int) :: (wo_X11_save ++ (wd_X3_take ++ (wd_X9_take ++ (wd_X9_size ++ (wsX110 ++ ([] : List Cond))))))
theorem mo_X11_save {w : Cond} (i : Nat) (h : wo_X11_save[i]? = some w) : w ∈ wd_X11_save := List.mem_cons_of_mem _ (List.mem_append_left _ (List.mem_of_getElem? h))
theorem mb_X11_save_0 : ∀ w ∈ wd_X3_take, w ∈ wd_X11_save := fun w h => List.mem_cons_of_mem _ (List.mem_append_right _ (List.mem_append_left _ h))
theorem mb_X11_save_1 : ∀ w ∈ wd_X9_take, w ∈ wd_X11_save := fun w h => List.mem_cons_of_mem _ (List.mem_append_right _ (List.mem_append_right _ (List.mem_append_left _ h)))
theorem mb_X11_save_2 : ∀ w ∈ wd_X9_size, w ∈ wd_X11_save := fun w h => List.mem_cons_of_mem _ (List.mem_append_right _ (List.mem_append_right _ (List.mem_append_right _ (List.mem_append_left _ h))))
theorem mb_X11_save_3 : ∀ w ∈ wsX110, w ∈ wd_X11_save := fun w h => List.mem_cons_of_mem _ (List.mem_append_right _ (List.mem_append_right _ (List.mem_append_right _ (List.mem_append_right _ (List.mem_append_left _ h)))))
theorem hd_X11_save : yX11_save.cls ≠ "java/lang/invoke/MethodHandle" ∧ yX11_save.cls ≠ "java/lang/invoke/VarHandle" ∧ (parseMethodDescriptor yX11_save.desc).map (fun d => d.parameters.length) = some 0 := by decide +kernel
set_option maxRecDepth 20000 in
theorem gw_X11_save : wd_X11_save.all goodWord = true := by decide +kernel
abbrev qc_X11_save (D : va_G) (x : Nat) (mo : Nat) (sm : Nat) (sc : Nat) (fo : Nat) (sf : Nat) (bu : Nat) (po : Nat) (te : Nat) (pa : Nat) (rw : Nat) (tr : Nat) (cl : Nat) (pt : Nat) (ru : Nat) (de : Nat) (mt : Nat) (mv : Nat) (kmt : ClassId) (kmv : ClassId) (st : Nat) (sv : Nat) (kst : ClassId) (ksv : ClassId) (fa : Nat) (fb : Nat) (fd : Nat) (kfa : ClassId) (kfb : ClassId) (ga : Nat) (gb : Nat) (gd : Nat) (kga : ClassId) (kgb : ClassId) (A : Nat → Prop) : Array Value → State → Outcome → State → Prop := va_Qi (fun (r : Int32) (uZ : Unit) => r = 0) (fun uZ tZ => kc_pos D A [] [] tZ) A
set_option maxHeartbeats 4000000 in
set_option maxRecDepth 100000 in
theorem ct_X11_save (l : Launch) (D : va_G) (x : Nat) (mo : Nat) (sm : Nat) (sc : Nat) (fo : Nat) (sf : Nat) (bu : Nat) (po : Nat) (te : Nat) (pa : Nat) (rw : Nat) (tr : Nat) (cl : Nat) (pt : Nat) (ru : Nat) (de : Nat) (mt : Nat) (mv : Nat) (kmt : ClassId) (kmv : ClassId) (st : Nat) (sv : Nat) (kst : ClassId) (ksv : ClassId) (fa : Nat) (fb : Nat) (fd : Nat) (kfa : ClassId) (kfb : ClassId) (ga : Nat) (gb : Nat) (gd : Nat) (kga : ClassId) (kgb : ClassId) (sz : Nat)  : Met l yX11_save wd_X11_save ({ frames := 2, cells := 0, slots := 0, locals := 61 }) (va_Pc [.ref x] (kc_pre D [(kmt, .int), (kmv, .int), (kst, .int), (ksv, .int), (kfa, .int), (kfb, .int), (kga, .int), (kgb, .int)] [(x, .inr (11, [.ref mo, .ref sm, .ref sc, .ref fo, .ref sf, .ref bu, .ref po, .ref te, .ref pa, .ref rw, .ref tr, .ref cl, .ref pt, .ref ru, .ref de, .int 0, .int 0])), (mo, .inr (3, [.ref mt, .ref mv, .int 1])), (mt, .inl (kmt, 4, .inl (fun _ => 0))), (mv, .inl (kmv, 18, .inl (fun _ => 0))), (sm, .inr (3, [.ref st, .ref sv, .int 1])), (st, .inl (kst, 4, .inl (fun _ => 0))), (sv, .inl (ksv, 18, .inl (fun _ => 0))), (fo, .inr (9, [.ref fa, .ref fb, .ref fd, .int 0])), (fa, .inl (kfa, 960, .inl (fun _ => 0))), (fb, .inl (kfb, 12, .inl (fun _ => 0))), (sf, .inr (9, [.ref ga, .ref gb, .ref gd, .int 0])), (ga, .inl (kga, 960, .inl (fun _ => 0))), (gb, .inl (kgb, 12, .inl (fun _ => 0)))] sz)) (qc_X11_save D x mo sm sc fo sf bu po te pa rw tr cl pt ru de mt mv kmt kmv st sv kst ksv fa fb fd kfa kfb ga gb gd kga kgb (va_A [(x, .inr (11, [.ref mo, .ref sm, .ref sc, .ref fo, .ref sf, .ref bu, .ref po, .ref te, .ref pa, .ref rw, .ref tr, .ref cl, .ref pt, .ref ru, .ref de, .int 0, .int 0])), (mo, .inr (3, [.ref mt, .ref mv, .int 1])), (mt, .inl (kmt, 4, .inl (fun _ => 0))), (mv, .inl (kmv, 18, .inl (fun _ => 0))), (sm, .inr (3, [.ref st, .ref sv, .int 1])), (st, .inl (kst, 4, .inl (fun _ => 0))), (sv, .inl (ksv, 18, .inl (fun _ => 0))), (fo, .inr (9, [.ref fa, .ref fb, .ref fd, .int 0])), (fa, .inl (kfa, 960, .inl (fun _ => 0))), (fb, .inl (kfb, 12, .inl (fun _ => 0))), (sf, .inr (9, [.ref ga, .ref gb, .ref gd, .int 0])), (ga, .inl (kga, 960, .inl (fun _ => 0))), (gb, .inl (kgb, 12, .inl (fun _ => 0)))] sz)) 0 0 (va_A [(x, .inr (11, [.ref mo, .ref sm, .ref sc, .ref fo, .ref sf, .ref bu, .ref po, .ref te, .ref pa, .ref rw, .ref tr, .ref cl, .ref pt, .ref ru, .ref de, .int 0, .int 0])), (mo, .inr (3, [.ref mt, .ref mv, .int 1])), (mt, .inl (kmt, 4, .inl (fun _ => 0))), (mv, .inl (kmv, 18, .inl (fun _ => 0))), (sm, .inr (3, [.ref st, .ref sv, .int 1])), (st, .inl (kst, 4, .inl (fun _ => 0))), (sv, .inl (ksv, 18, .inl (fun _ => 0))), (fo, .inr (9, [.ref fa, .ref fb, .ref fd, .int 0])), (fa, .inl (kfa, 960, .inl (fun _ => 0))), (fb, .inl (kfb, 12, .inl (fun _ => 0))), (sf, .inr (9, [.ref ga, .ref gb, .ref gd, .int 0])), (ga, .inl (kga, 960, .inl (fun _ => 0))), (gb, .inl (kgb, 12, .inl (fun _ => 0)))] sz) := by
  refine Met.ofW (cc := cX11_save) (maxL := 1) (ret := (some .int)) (by decide) rfl ?_
  intro p e s m args below meth c s₁ B hml hv
  obtain ⟨rfl, hsz, hP, hK, hN, hD0⟩ := hv
  have hx := B.exec
  have hb := B.bytes
  have hr := B.returns
  have hts := atoms_spec (ws := wd_X11_save) B.pre
  have hown : s.vm.findClass RX11 = some m.cls := findClass_of_methodNamed B.named
  have hlocks := B.notSynchronized
  subst hsz
  have hD := hD0.self (sz := s.heap.size)
  generalize hAe : va_A [(x, .inr (11, [.ref mo, .ref sm, .ref sc, .ref fo, .ref sf, .ref bu, .ref po, .ref te, .ref pa, .ref rw, .ref tr, .ref cl, .ref pt, .ref ru, .ref de, .int 0, .int 0])), (mo, .inr (3, [.ref mt, .ref mv, .int 1])), (mt, .inl (kmt, 4, .inl (fun _ => 0))), (mv, .inl (kmv, 18, .inl (fun _ => 0))), (sm, .inr (3, [.ref st, .ref sv, .int 1])), (st, .inl (kst, 4, .inl (fun _ => 0))), (sv, .inl (ksv, 18, .inl (fun _ => 0))), (fo, .inr (9, [.ref fa, .ref fb, .ref fd, .int 0])), (fa, .inl (kfa, 960, .inl (fun _ => 0))), (fb, .inl (kfb, 12, .inl (fun _ => 0))), (sf, .inr (9, [.ref ga, .ref gb, .ref gd, .int 0])), (ga, .inl (kga, 960, .inl (fun _ => 0))), (gb, .inl (kgb, 12, .inl (fun _ => 0)))] s.heap.size = A at hD ⊢
  have hA : ∀ q : Nat, s.heap.size ≤ q → A q := fun q h => by rw [← hAe]; exact Or.inr h
  have hS : va_S A s.heap s.heap [] := va_S.rf
  have hiX11 : ∀ w ∈ wsX110, w ∈ wd_X11_save := mb_X11_save_3
  have hl := lv_entry ([.ref x]) (n := 1) (Nat.le_of_ble_eq_true rfl)
  rw [lg_entry_eq]
  generalize (lg_sl ([.ref x]) ++ List.replicate (1 - (lg_sl ([.ref x])).length) Slot.unset).toArray = ls at hl ⊢
  have hl : lv_has ls 1 [(0, .ref x)] := hl
  refine lv_aload_n hx hb dX11_save_0 rfl (lv_at hl 0 rfl) ?_
  refine va_get (D := D) (ci := 11) (v := .ref sm) (C := RX11) (T := TX11) (N := 17) hx hb hts hiX11 hown hK hP 0 rfl rfl 1 (by decide) (hts (.fieldLink RX11 18 "DynamicLogicProver" "savedModel" "LDynamicLogicProver$Model;") (mo_X11_save 0 rfl)) (fun _ h9 => h9) rfl dX11_save_1 ?_
  refine lv_aload_n hx hb dX11_save_4 rfl (lv_at hl 0 rfl) ?_
  refine va_get (D := D) (ci := 11) (v := .ref mo) (C := RX11) (T := TX11) (N := 17) hx hb hts hiX11 hown hK hP 0 rfl rfl 0 (by decide) (hts (.fieldLink RX11 12 "DynamicLogicProver" "model" "LDynamicLogicProver$Model;") (mo_X11_save 1 rfl)) (fun _ h9 => h9) rfl dX11_save_5 ?_
  refine kc_Vv (As := [.ref mo]) (rest := []) (wr := [(x, .inr (11, [.ref mo, .ref sm, .ref sc, .ref fo, .ref sf, .ref bu, .ref po, .ref te, .ref pa, .ref rw, .ref tr, .ref cl, .ref pt, .ref ru, .ref de, .int 0, .int 0])), (fo, .inr (9, [.ref fa, .ref fb, .ref fd, .int 0])), (fa, .inl (kfa, 960, .inl (fun _ => 0))), (fb, .inl (kfb, 12, .inl (fun _ => 0))), (sf, .inr (9, [.ref ga, .ref gb, .ref gd, .int 0])), (ga, .inl (kga, 960, .inl (fun _ => 0))), (gb, .inl (kgb, 12, .inl (fun _ => 0)))]) ⟨hx, hb, hml, hown, hts⟩ (ct_X3_take l D sm st sv mo mt mv kst ksv kmt kmv (fun _ => 0) (fun _ => 0) (fun _ => 0) (fun _ => 0) 1 1 _ ) (cwV 1 hts (kg_V (mo_X11_save 2 rfl) (mo_X11_save 3 rfl) (mo_X11_save 4 rfl) (mo_X11_save 5 rfl) (goodIn_sub mb_X11_save_0 gw_X3_take)) rfl rfl rfl ⟨rfl, hd_X3_take⟩ ⟨Nat.le_of_ble_eq_true rfl, Nat.le_of_ble_eq_true rfl⟩) (RX3, TX3, 3) 3 4 rfl rfl rfl hK hN hP hD hS hA [4, 5, 6, 1, 2, 3] [0, 7, 8, 9, 10, 11, 12] [2, 3, 0, 1] rfl rfl (by decide) (by decide) (by decide) rfl rfl hl.1 rfl (Nat.le_of_ble_eq_true rfl) dX11_save_8 ⟨Nat.le_of_ble_eq_true rfl, Nat.le_of_ble_eq_true rfl⟩ (fun u_2 H locs w_3 hP hD hK1 hS => ?_)
  obtain ⟨o_4, o_5⟩ := u_2
  have hP : va_P D vwCl [(x, .inr (11, [.ref mo, .ref sm, .ref sc, .ref fo, .ref sf, .ref bu, .ref po, .ref te, .ref pa, .ref rw, .ref tr, .ref cl, .ref pt, .ref ru, .ref de, .int 0, .int 0])), (fo, .inr (9, [.ref fa, .ref fb, .ref fd, .int 0])), (fa, .inl (kfa, 960, .inl (fun _ => 0))), (fb, .inl (kfb, 12, .inl (fun _ => 0))), (sf, .inr (9, [.ref ga, .ref gb, .ref gd, .int 0])), (ga, .inl (kga, 960, .inl (fun _ => 0))), (gb, .inl (kgb, 12, .inl (fun _ => 0))), (sm, .inr (3, [.ref st, .ref sv, .int 1])), (st, .inl (kst, 4, .inl o_4)), (sv, .inl (ksv, 18, .inl o_5)), (mo, .inr (3, [.ref mt, .ref mv, .int 1])), (mt, .inl (kmt, 4, .inl (fun _ => 0))), (mv, .inl (kmv, 18, .inl (fun _ => 0)))] H := hP
  have hD : va_D A [(x, .inr (11, [.ref mo, .ref sm, .ref sc, .ref fo, .ref sf, .ref bu, .ref po, .ref te, .ref pa, .ref rw, .ref tr, .ref cl, .ref pt, .ref ru, .ref de, .int 0, .int 0])), (fo, .inr (9, [.ref fa, .ref fb, .ref fd, .int 0])), (fa, .inl (kfa, 960, .inl (fun _ => 0))), (fb, .inl (kfb, 12, .inl (fun _ => 0))), (sf, .inr (9, [.ref ga, .ref gb, .ref gd, .int 0])), (ga, .inl (kga, 960, .inl (fun _ => 0))), (gb, .inl (kgb, 12, .inl (fun _ => 0))), (sm, .inr (3, [.ref st, .ref sv, .int 1])), (st, .inl (kst, 4, .inl o_4)), (sv, .inl (ksv, 18, .inl o_5)), (mo, .inr (3, [.ref mt, .ref mv, .int 1])), (mt, .inl (kmt, 4, .inl (fun _ => 0))), (mv, .inl (kmv, 18, .inl (fun _ => 0)))] := hD
  refine lv_aload_n hx hb dX11_save_11 rfl (lv_at hl 0 rfl) ?_
  refine va_get (D := D) (ci := 11) (v := .ref sf) (C := RX11) (T := TX11) (N := 17) hx hb hts hiX11 hown hK hP 0 rfl rfl 4 (by decide) (hts (.fieldLink RX11 31 "DynamicLogicProver" "savedFormulas" "LDynamicLogicProver$Shelf;") (mo_X11_save 6 rfl)) (fun _ h9 => h9) rfl dX11_save_12 ?_
  refine lv_aload_n hx hb dX11_save_15 rfl (lv_at hl 0 rfl) ?_
  refine va_get (D := D) (ci := 11) (v := .ref fo) (C := RX11) (T := TX11) (N := 17) hx hb hts hiX11 hown hK hP 0 rfl rfl 3 (by decide) (hts (.fieldLink RX11 27 "DynamicLogicProver" "formulas" "LDynamicLogicProver$Shelf;") (mo_X11_save 7 rfl)) (fun _ h9 => h9) rfl dX11_save_16 ?_
  refine kc_Vv (As := [.ref fo]) (rest := []) (wr := [(x, .inr (11, [.ref mo, .ref sm, .ref sc, .ref fo, .ref sf, .ref bu, .ref po, .ref te, .ref pa, .ref rw, .ref tr, .ref cl, .ref pt, .ref ru, .ref de, .int 0, .int 0])), (sm, .inr (3, [.ref st, .ref sv, .int 1])), (st, .inl (kst, 4, .inl o_4)), (sv, .inl (ksv, 18, .inl o_5)), (mo, .inr (3, [.ref mt, .ref mv, .int 1])), (mt, .inl (kmt, 4, .inl (fun _ => 0))), (mv, .inl (kmv, 18, .inl (fun _ => 0)))]) ⟨hx, hb, hml, hown, hts⟩ (ct_X9_take l D sf ga gb gd fo fa fb fd kga kgb kfa kfb (fun _ => 0) (fun _ => 0) (fun _ => 0) (fun _ => 0) 0 0 _ ) (cwV 1 hts (kg_V (mo_X11_save 8 rfl) (mo_X11_save 9 rfl) (mo_X11_save 10 rfl) (mo_X11_save 11 rfl) (goodIn_sub mb_X11_save_1 gw_X9_take)) rfl rfl rfl ⟨rfl, hd_X9_take⟩ ⟨Nat.le_of_ble_eq_true rfl, Nat.le_of_ble_eq_true rfl⟩) (RX9, TX9, 4) 9 4 rfl rfl rfl hK hN hP hD hS hA [4, 5, 6, 1, 2, 3] [0, 7, 8, 9, 10, 11, 12] [6, 7, 4, 5] rfl rfl (by decide) (by decide) (by decide) rfl rfl hl.1 rfl (Nat.le_of_ble_eq_true rfl) dX11_save_19 ⟨Nat.le_of_ble_eq_true rfl, Nat.le_of_ble_eq_true rfl⟩ (fun u_7 H locs w_8 hP hD hK1 hS => ?_)
  obtain ⟨o_9, o_10⟩ := u_7
  have hP : va_P D vwCl [(x, .inr (11, [.ref mo, .ref sm, .ref sc, .ref fo, .ref sf, .ref bu, .ref po, .ref te, .ref pa, .ref rw, .ref tr, .ref cl, .ref pt, .ref ru, .ref de, .int 0, .int 0])), (sm, .inr (3, [.ref st, .ref sv, .int 1])), (st, .inl (kst, 4, .inl o_4)), (sv, .inl (ksv, 18, .inl o_5)), (mo, .inr (3, [.ref mt, .ref mv, .int 1])), (mt, .inl (kmt, 4, .inl (fun _ => 0))), (mv, .inl (kmv, 18, .inl (fun _ => 0))), (sf, .inr (9, [.ref ga, .ref gb, .ref gd, .int 0])), (ga, .inl (kga, 960, .inl o_9)), (gb, .inl (kgb, 12, .inl o_10)), (fo, .inr (9, [.ref fa, .ref fb, .ref fd, .int 0])), (fa, .inl (kfa, 960, .inl (fun _ => 0))), (fb, .inl (kfb, 12, .inl (fun _ => 0)))] H := hP
  have hD : va_D A [(x, .inr (11, [.ref mo, .ref sm, .ref sc, .ref fo, .ref sf, .ref bu, .ref po, .ref te, .ref pa, .ref rw, .ref tr, .ref cl, .ref pt, .ref ru, .ref de, .int 0, .int 0])), (sm, .inr (3, [.ref st, .ref sv, .int 1])), (st, .inl (kst, 4, .inl o_4)), (sv, .inl (ksv, 18, .inl o_5)), (mo, .inr (3, [.ref mt, .ref mv, .int 1])), (mt, .inl (kmt, 4, .inl (fun _ => 0))), (mv, .inl (kmv, 18, .inl (fun _ => 0))), (sf, .inr (9, [.ref ga, .ref gb, .ref gd, .int 0])), (ga, .inl (kga, 960, .inl o_9)), (gb, .inl (kgb, 12, .inl o_10)), (fo, .inr (9, [.ref fa, .ref fb, .ref fd, .int 0])), (fa, .inl (kfa, 960, .inl (fun _ => 0))), (fb, .inl (kfb, 12, .inl (fun _ => 0)))] := hD
  refine lv_aload_n hx hb dX11_save_22 rfl (lv_at hl 0 rfl) ?_
  refine lv_iconst (v := 1) hx hb dX11_save_23 (by decide) ?_
  refine va_put (D := D) (ci := 11) (v := .int 1) (ty := .boolean) (C := RX11) (T := TX11) (N := 17) hx hb hts hiX11 tyX11 tyX11_ok nmX11 hown hK hP hD hS 0 rfl rfl 16 (by decide) (hts (.fieldLink RX11 113 "DynamicLogicProver" "saved" "Z") (mo_X11_save 12 rfl)) (fun _ h9 => h9) rfl (tyX11_ok 16 (by decide)) rfl rfl (Nat.le_of_ble_eq_true rfl) dX11_save_24 (fun H locs hP hD hS => ?_)
  have hP : va_P D vwCl [(x, .inr (11, [.ref mo, .ref sm, .ref sc, .ref fo, .ref sf, .ref bu, .ref po, .ref te, .ref pa, .ref rw, .ref tr, .ref cl, .ref pt, .ref ru, .ref de, .int 0, .int 1])), (sm, .inr (3, [.ref st, .ref sv, .int 1])), (st, .inl (kst, 4, .inl o_4)), (sv, .inl (ksv, 18, .inl o_5)), (mo, .inr (3, [.ref mt, .ref mv, .int 1])), (mt, .inl (kmt, 4, .inl (fun _ => 0))), (mv, .inl (kmv, 18, .inl (fun _ => 0))), (sf, .inr (9, [.ref ga, .ref gb, .ref gd, .int 0])), (ga, .inl (kga, 960, .inl o_9)), (gb, .inl (kgb, 12, .inl o_10)), (fo, .inr (9, [.ref fa, .ref fb, .ref fd, .int 0])), (fa, .inl (kfa, 960, .inl (fun _ => 0))), (fb, .inl (kfb, 12, .inl (fun _ => 0)))] H := hP
  have hD : va_D A [(x, .inr (11, [.ref mo, .ref sm, .ref sc, .ref fo, .ref sf, .ref bu, .ref po, .ref te, .ref pa, .ref rw, .ref tr, .ref cl, .ref pt, .ref ru, .ref de, .int 0, .int 1])), (sm, .inr (3, [.ref st, .ref sv, .int 1])), (st, .inl (kst, 4, .inl o_4)), (sv, .inl (ksv, 18, .inl o_5)), (mo, .inr (3, [.ref mt, .ref mv, .int 1])), (mt, .inl (kmt, 4, .inl (fun _ => 0))), (mv, .inl (kmv, 18, .inl (fun _ => 0))), (sf, .inr (9, [.ref ga, .ref gb, .ref gd, .int 0])), (ga, .inl (kga, 960, .inl o_9)), (gb, .inl (kgb, 12, .inl o_10)), (fo, .inr (9, [.ref fa, .ref fb, .ref fd, .int 0])), (fa, .inl (kfa, 960, .inl (fun _ => 0))), (fb, .inl (kfb, 12, .inl (fun _ => 0)))] := hD
  refine lv_aload_n hx hb dX11_save_27 rfl (lv_at hl 0 rfl) ?_
  refine va_get (D := D) (ci := 11) (v := .ref fo) (C := RX11) (T := TX11) (N := 17) hx hb hts hiX11 hown hK hP 0 rfl rfl 3 (by decide) (hts (.fieldLink RX11 27 "DynamicLogicProver" "formulas" "LDynamicLogicProver$Shelf;") (mo_X11_save 7 rfl)) (fun _ h9 => h9) rfl dX11_save_28 ?_
  refine kc_Vi (As := []) (rest := []) (wr := [(x, .inr (11, [.ref mo, .ref sm, .ref sc, .ref fo, .ref sf, .ref bu, .ref po, .ref te, .ref pa, .ref rw, .ref tr, .ref cl, .ref pt, .ref ru, .ref de, .int 0, .int 1])), (sm, .inr (3, [.ref st, .ref sv, .int 1])), (st, .inl (kst, 4, .inl o_4)), (sv, .inl (ksv, 18, .inl o_5)), (mo, .inr (3, [.ref mt, .ref mv, .int 1])), (mt, .inl (kmt, 4, .inl (fun _ => 0))), (mv, .inl (kmv, 18, .inl (fun _ => 0))), (sf, .inr (9, [.ref ga, .ref gb, .ref gd, .int 0])), (ga, .inl (kga, 960, .inl o_9)), (gb, .inl (kgb, 12, .inl o_10)), (fa, .inl (kfa, 960, .inl (fun _ => 0))), (fb, .inl (kfb, 12, .inl (fun _ => 0)))]) ⟨hx, hb, hml, hown, hts⟩ (ct_X9_size l D fo fa fb fd 0 _ ) (cwV 0 hts (kg_V (mo_X11_save 13 rfl) (mo_X11_save 14 rfl) (mo_X11_save 15 rfl) (mo_X11_save 11 rfl) (goodIn_sub mb_X11_save_2 gw_X9_size)) rfl rfl rfl ⟨rfl, hd_X9_size⟩ ⟨Nat.le_of_ble_eq_true rfl, Nat.le_of_ble_eq_true rfl⟩) (RX9, TX9, 4) 9 10 rfl rfl rfl hK hN hP hD hS hA [10] [0, 1, 2, 3, 4, 5, 6, 7, 8, 9, 11, 12] [] rfl rfl (by decide) (by decide) (by decide) rfl rfl hl.1 rfl (Nat.le_of_ble_eq_true rfl) dX11_save_31 ⟨Nat.le_of_ble_eq_true rfl, Nat.le_of_ble_eq_true rfl⟩ (fun r_11 u_12 H locs w_13 hP hD hK1 hS => ?_)
  have hP : va_P D vwCl [(x, .inr (11, [.ref mo, .ref sm, .ref sc, .ref fo, .ref sf, .ref bu, .ref po, .ref te, .ref pa, .ref rw, .ref tr, .ref cl, .ref pt, .ref ru, .ref de, .int 0, .int 1])), (sm, .inr (3, [.ref st, .ref sv, .int 1])), (st, .inl (kst, 4, .inl o_4)), (sv, .inl (ksv, 18, .inl o_5)), (mo, .inr (3, [.ref mt, .ref mv, .int 1])), (mt, .inl (kmt, 4, .inl (fun _ => 0))), (mv, .inl (kmv, 18, .inl (fun _ => 0))), (sf, .inr (9, [.ref ga, .ref gb, .ref gd, .int 0])), (ga, .inl (kga, 960, .inl o_9)), (gb, .inl (kgb, 12, .inl o_10)), (fa, .inl (kfa, 960, .inl (fun _ => 0))), (fb, .inl (kfb, 12, .inl (fun _ => 0))), (fo, .inr (9, [.ref fa, .ref fb, .ref fd, .int 0]))] H := hP
  have hD : va_D A [(x, .inr (11, [.ref mo, .ref sm, .ref sc, .ref fo, .ref sf, .ref bu, .ref po, .ref te, .ref pa, .ref rw, .ref tr, .ref cl, .ref pt, .ref ru, .ref de, .int 0, .int 1])), (sm, .inr (3, [.ref st, .ref sv, .int 1])), (st, .inl (kst, 4, .inl o_4)), (sv, .inl (ksv, 18, .inl o_5)), (mo, .inr (3, [.ref mt, .ref mv, .int 1])), (mt, .inl (kmt, 4, .inl (fun _ => 0))), (mv, .inl (kmv, 18, .inl (fun _ => 0))), (sf, .inr (9, [.ref ga, .ref gb, .ref gd, .int 0])), (ga, .inl (kga, 960, .inl o_9)), (gb, .inl (kgb, 12, .inl o_10)), (fa, .inl (kfa, 960, .inl (fun _ => 0))), (fb, .inl (kfb, 12, .inl (fun _ => 0))), (fo, .inr (9, [.ref fa, .ref fb, .ref fd, .int 0]))] := hD
  have w_13 : r_11 = 0 := w_13
  subst w_13
  have hP9 := hP.sub (ws' := []) [] rfl
  have hD9 := hD.sub (ws' := []) [] (by decide) rfl
  have hK9 := hK.sub (tys' := []) [] rfl
  exact W.iret (v := 0) hx hb hr (fun tZ htZ hW => ⟨⟨0, (), rfl, rfl, by rw [htZ]; exact hP9, va_K.moved hW.alike hK9, hD9⟩, hS.F htZ⟩) hS.2.2 dX11_save_34
theorem dX11_restore_0 : decode cX11_restore 0 = .ok (.aload_n 0, 1) := by decide +kernel
theorem dX11_restore_1 : decode cX11_restore 1 = .ok (.getfield 113, 3) := by decide +kernel
theorem dX11_restore_4 : decode cX11_restore 4 = .ok (.ifCond .ne 6, 3) := by decide +kernel
theorem dX11_restore_7 : decode cX11_restore 7 = .ok (.bipush (-3), 2) := by decide +kernel
theorem dX11_restore_9 : decode cX11_restore 9 = .ok (.ireturn, 1) := by decide +kernel
theorem dX11_restore_10 : decode cX11_restore 10 = .ok (.aload_n 0, 1) := by decide +kernel
theorem dX11_restore_11 : decode cX11_restore 11 = .ok (.getfield 12, 3) := by decide +kernel
theorem dX11_restore_14 : decode cX11_restore 14 = .ok (.aload_n 0, 1) := by decide +kernel
theorem dX11_restore_15 : decode cX11_restore 15 = .ok (.getfield 18, 3) := by decide +kernel
theorem dX11_restore_18 : decode cX11_restore 18 = .ok (.invokevirtual 282, 3) := by decide +kernel
theorem dX11_restore_21 : decode cX11_restore 21 = .ok (.aload_n 0, 1) := by decide +kernel
theorem dX11_restore_22 : decode cX11_restore 22 = .ok (.getfield 27, 3) := by decide +kernel
theorem dX11_restore_25 : decode cX11_restore 25 = .ok (.aload_n 0, 1) := by decide +kernel
theorem dX11_restore_26 : decode cX11_restore 26 = .ok (.getfield 31, 3) := by decide +kernel
theorem dX11_restore_29 : decode cX11_restore 29 = .ok (.invokevirtual 322, 3) := by decide +kernel
theorem dX11_restore_32 : decode cX11_restore 32 = .ok (.aload_n 0, 1) := by decide +kernel
theorem dX11_restore_33 : decode cX11_restore 33 = .ok (.getfield 27, 3) := by decide +kernel
theorem dX11_restore_36 : decode cX11_restore 36 = .ok (.invokevirtual 219, 3) := by decide +kernel
theorem dX11_restore_39 : decode cX11_restore 39 = .ok (.ireturn, 1) := by decide +kernel
def wo_X11_restore : List Cond := [.fieldLink RX11 113 "DynamicLogicProver" "saved" "Z"]
def wd_X11_restore : List Cond := .code yX11_restore cX11_restore 1 (some .int) :: (wo_X11_restore ++ (wsX110 ++ ([] : List Cond)))
theorem mo_X11_restore {w : Cond} (i : Nat) (h : wo_X11_restore[i]? = some w) : w ∈ wd_X11_restore := List.mem_cons_of_mem _ (List.mem_append_left _ (List.mem_of_getElem? h))
theorem mb_X11_restore_0 : ∀ w ∈ wsX110, w ∈ wd_X11_restore := fun w h => List.mem_cons_of_mem _ (List.mem_append_right _ (List.mem_append_left _ h))
theorem hd_X11_restore : yX11_restore.cls ≠ "java/lang/invoke/MethodHandle" ∧ yX11_restore.cls ≠ "java/lang/invoke/VarHandle" ∧ (parseMethodDescriptor yX11_restore.desc).map (fun d => d.parameters.length) = some 0 := by decide +kernel
set_option maxRecDepth 20000 in
theorem gw_X11_restore : wd_X11_restore.all goodWord = true := by decide +kernel
abbrev qc_X11_restore (D : va_G) (x : Nat) (mo : Nat) (sm : Nat) (sc : Nat) (fo : Nat) (sf : Nat) (bu : Nat) (po : Nat) (te : Nat) (pa : Nat) (rw : Nat) (tr : Nat) (cl : Nat) (pt : Nat) (ru : Nat) (de : Nat) (A : Nat → Prop) : Array Value → State → Outcome → State → Prop := va_Qi (fun (r : Int32) (uZ : Unit) => r = (-3)) (fun uZ tZ => kc_pos D A [] [] tZ) A
set_option maxHeartbeats 4000000 in
set_option maxRecDepth 100000 in
theorem ct_X11_restore (l : Launch) (D : va_G) (x : Nat) (mo : Nat) (sm : Nat) (sc : Nat) (fo : Nat) (sf : Nat) (bu : Nat) (po : Nat) (te : Nat) (pa : Nat) (rw : Nat) (tr : Nat) (cl : Nat) (pt : Nat) (ru : Nat) (de : Nat) (sz : Nat)  : Met l yX11_restore wd_X11_restore ({ frames := 0, cells := 0, slots := 0, locals := 0 }) (va_Pc [.ref x] (kc_pre D [] [(x, .inr (11, [.ref mo, .ref sm, .ref sc, .ref fo, .ref sf, .ref bu, .ref po, .ref te, .ref pa, .ref rw, .ref tr, .ref cl, .ref pt, .ref ru, .ref de, .int 0, .int 0]))] sz)) (qc_X11_restore D x mo sm sc fo sf bu po te pa rw tr cl pt ru de (va_A [(x, .inr (11, [.ref mo, .ref sm, .ref sc, .ref fo, .ref sf, .ref bu, .ref po, .ref te, .ref pa, .ref rw, .ref tr, .ref cl, .ref pt, .ref ru, .ref de, .int 0, .int 0]))] sz)) 0 0 (va_A [(x, .inr (11, [.ref mo, .ref sm, .ref sc, .ref fo, .ref sf, .ref bu, .ref po, .ref te, .ref pa, .ref rw, .ref tr, .ref cl, .ref pt, .ref ru, .ref de, .int 0, .int 0]))] sz) := by
  refine Met.ofW (cc := cX11_restore) (maxL := 1) (ret := (some .int)) (by decide) rfl ?_
  intro p e s m args below meth c s₁ B hml hv
  obtain ⟨rfl, hsz, hP, hK, hN, hD0⟩ := hv
  have hx := B.exec
  have hb := B.bytes
  have hr := B.returns
  have hts := atoms_spec (ws := wd_X11_restore) B.pre
  have hown : s.vm.findClass RX11 = some m.cls := findClass_of_methodNamed B.named
  have hlocks := B.notSynchronized
  subst hsz
  have hD := hD0.self (sz := s.heap.size)
  generalize hAe : va_A [(x, .inr (11, [.ref mo, .ref sm, .ref sc, .ref fo, .ref sf, .ref bu, .ref po, .ref te, .ref pa, .ref rw, .ref tr, .ref cl, .ref pt, .ref ru, .ref de, .int 0, .int 0]))] s.heap.size = A at hD ⊢
  have hA : ∀ q : Nat, s.heap.size ≤ q → A q := fun q h => by rw [← hAe]; exact Or.inr h
  have hS : va_S A s.heap s.heap [] := va_S.rf
  have hiX11 : ∀ w ∈ wsX110, w ∈ wd_X11_restore := mb_X11_restore_0
  have hl := lv_entry ([.ref x]) (n := 1) (Nat.le_of_ble_eq_true rfl)
  rw [lg_entry_eq]
  generalize (lg_sl ([.ref x]) ++ List.replicate (1 - (lg_sl ([.ref x])).length) Slot.unset).toArray = ls at hl ⊢
  have hl : lv_has ls 1 [(0, .ref x)] := hl
  refine lv_aload_n hx hb dX11_restore_0 rfl (lv_at hl 0 rfl) ?_
  refine va_get (D := D) (ci := 11) (v := .int 0) (C := RX11) (T := TX11) (N := 17) hx hb hts hiX11 hown hK hP 0 rfl rfl 16 (by decide) (hts (.fieldLink RX11 113 "DynamicLogicProver" "saved" "Z") (mo_X11_restore 0 rfl)) (fun _ h9 => h9) rfl dX11_restore_1 ?_
  refine lv_if_ne (tgt := 10) hx hb dX11_restore_4 (by decide) (fun c_1 => ?_) (fun c_1 => ?_)
  · exact absurd c_1 (by decide)
  · refine lv_bipush (v := (-3)) hx hb dX11_restore_7 (by decide) ?_
    have hP9 := hP.sub (ws' := []) [] rfl
    have hD9 := hD.sub (ws' := []) [] (by decide) rfl
    have hK9 := hK.sub (tys' := []) [] rfl
    exact W.iret (v := (-3)) hx hb hr (fun tZ htZ hW => ⟨⟨(-3), (), rfl, rfl, by rw [htZ]; exact hP9, va_K.moved hW.alike hK9, hD9⟩, hS.F htZ⟩) hS.2.2 dX11_restore_9
