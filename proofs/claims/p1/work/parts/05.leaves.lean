def at_v (f : Nat → Int32) (n : Nat) (i : Int32) : Int32 := if i < 0 ∨ n ≤ i.toNatClampNeg then 0 else f i.toNatClampNeg
def put_v (f : Nat → Int32) (n : Nat) (i x : Int32) : Nat → Int32 := if i < 0 ∨ n ≤ i.toNatClampNeg then f else upd f i.toNatClampNeg x
def atL_v (f : Nat → Int64) (n : Nat) (i : Int32) : Int64 := if i < 0 ∨ n ≤ i.toNatClampNeg then 0 else f i.toNatClampNeg
def putL_v (f : Nat → Int64) (n : Nat) (i : Int32) (x : Int64) : Nat → Int64 := if i < 0 ∨ n ≤ i.toNatClampNeg then f else vp_updL f i.toNatClampNeg x
theorem in_of {i : Int32} {n : Nat} (hn : n < 2 ^ 31) (h1 : ¬ i < 0) (h2 : ¬ nI n ≤ i) : vp_in i n := by
  obtain ⟨j, hj, rfl⟩ := nI_of h1
  have h3 : ¬ n ≤ j := fun q => h2 (nI_le q hj)
  exact vp_in_nI (by omega) hn
theorem out_hi {i : Int32} {n : Nat} (hn : n < 2 ^ 31) (h1 : ¬ i < 0) (h2 : nI n ≤ i) : n ≤ i.toNatClampNeg := by
  obtain ⟨j, hj, rfl⟩ := nI_of h1
  rw [nI_clamp hj]
  rcases Nat.lt_or_ge j n with q | q
  · exact absurd h2 (nI_ge q hn)
  · exact q
theorem at_lo {f : Nat → Int32} {n : Nat} {i : Int32} (h : i < 0) : 0 = at_v f n i := (if_pos (Or.inl h)).symm
theorem at_hi {f : Nat → Int32} {n : Nat} {i : Int32} (hn : n < 2 ^ 31) (h1 : ¬ i < 0) (h : nI n ≤ i) : 0 = at_v f n i := (if_pos (Or.inr (out_hi hn h1 h))).symm
theorem at_in {f : Nat → Int32} {n : Nat} {i : Int32} (h : vp_in i n) : f i.toNatClampNeg = at_v f n i := (if_neg h).symm
theorem put_lo {f : Nat → Int32} {n : Nat} {i x : Int32} (h : i < 0) : f = put_v f n i x := (if_pos (Or.inl h)).symm
theorem put_hi {f : Nat → Int32} {n : Nat} {i x : Int32} (hn : n < 2 ^ 31) (h1 : ¬ i < 0) (h : nI n ≤ i) : f = put_v f n i x := (if_pos (Or.inr (out_hi hn h1 h))).symm
theorem put_in {f : Nat → Int32} {n : Nat} {i x : Int32} (h : vp_in i n) : upd f i.toNatClampNeg x = put_v f n i x := (if_neg h).symm
theorem atL_lo {f : Nat → Int64} {n : Nat} {i : Int32} (h : i < 0) : 0 = atL_v f n i := (if_pos (Or.inl h)).symm
theorem atL_hi {f : Nat → Int64} {n : Nat} {i : Int32} (hn : n < 2 ^ 31) (h1 : ¬ i < 0) (h : nI n ≤ i) : 0 = atL_v f n i := (if_pos (Or.inr (out_hi hn h1 h))).symm
theorem atL_in {f : Nat → Int64} {n : Nat} {i : Int32} (h : vp_in i n) : f i.toNatClampNeg = atL_v f n i := (if_neg h).symm
theorem putL_lo {f : Nat → Int64} {n : Nat} {i : Int32} {x : Int64} (h : i < 0) : f = putL_v f n i x := (if_pos (Or.inl h)).symm
theorem putL_hi {f : Nat → Int64} {n : Nat} {i : Int32} {x : Int64} (hn : n < 2 ^ 31) (h1 : ¬ i < 0) (h : nI n ≤ i) : f = putL_v f n i x := (if_pos (Or.inr (out_hi hn h1 h))).symm
theorem putL_in {f : Nat → Int64} {n : Nat} {i : Int32} {x : Int64} (h : vp_in i n) : vp_updL f i.toNatClampNeg x = putL_v f n i x := (if_neg h).symm
theorem nk_lt {j n : Nat} (hn : n < 2 ^ 31) (hj : j ≤ n) (h : ¬ nI n ≤ nI j) : j < n := by
  rcases Nat.lt_or_ge j n with q | q
  · exact q
  · exact absurd (nI_le q (by omega)) h
theorem nk_ge {j n : Nat} (hn : n < 2 ^ 31) (hj : j ≤ n) (h : nI n ≤ nI j) : n ≤ j := by
  rcases Nat.lt_or_ge j n with q | q
  · exact absurd h (nI_ge q hn)
  · exact q
theorem fill_step {g : Nat → Int32} {v : Int32} {j : Nat} (hj : j < 2 ^ 31) (hg : ∀ k, k < j → g k = v) : ∀ k, k < j + 1 → upd g (nI j).toNatClampNeg v k = v := by
  intro k hk
  rw [nI_clamp hj]
  by_cases e : k = j
  · subst e; exact pk_us
  · rw [pk_un e]; exact hg k (by omega)
theorem dX11_at_0 : decode cX11_at 0 = .ok (.aload_n 0, 1) := by decide +kernel
theorem dX11_at_1 : decode cX11_at 1 = .ok (.ifnull 19, 3) := by decide +kernel
theorem dX11_at_4 : decode cX11_at 4 = .ok (.iload_n 1, 1) := by decide +kernel
theorem dX11_at_5 : decode cX11_at 5 = .ok (.ifCond .lt 15, 3) := by decide +kernel
theorem dX11_at_8 : decode cX11_at 8 = .ok (.iload_n 1, 1) := by decide +kernel
theorem dX11_at_9 : decode cX11_at 9 = .ok (.aload_n 0, 1) := by decide +kernel
theorem dX11_at_10 : decode cX11_at 10 = .ok (.arraylength, 1) := by decide +kernel
theorem dX11_at_11 : decode cX11_at 11 = .ok (.if_icmp .ge 9, 3) := by decide +kernel
theorem dX11_at_14 : decode cX11_at 14 = .ok (.aload_n 0, 1) := by decide +kernel
theorem dX11_at_15 : decode cX11_at 15 = .ok (.iload_n 1, 1) := by decide +kernel
theorem dX11_at_16 : decode cX11_at 16 = .ok (.iaload, 1) := by decide +kernel
theorem dX11_at_17 : decode cX11_at 17 = .ok (.goto 4, 3) := by decide +kernel
theorem dX11_at_20 : decode cX11_at 20 = .ok (.iconst 0, 1) := by decide +kernel
theorem dX11_at_21 : decode cX11_at 21 = .ok (.ireturn, 1) := by decide +kernel
def wo_X11_at : List Cond := []
def wd_X11_at : List Cond := .code yX11_at cX11_at 2 (some .int) :: (wo_X11_at ++ ([] : List Cond))
theorem hd_X11_at : yX11_at.cls ≠ "java/lang/invoke/MethodHandle" ∧ yX11_at.cls ≠ "java/lang/invoke/VarHandle" ∧ (parseMethodDescriptor yX11_at.desc).map (fun d => d.parameters.length) = some 2 := by decide +kernel
set_option maxRecDepth 20000 in
theorem gw_X11_at : wd_X11_at.all goodWord = true := by decide +kernel
abbrev qc_X11_at (D : va_G) (a : Nat) (kA : ClassId) (n : Nat) (f : Nat → Int32) (i : Int32) (A : Nat → Prop) : Array Value → State → Outcome → State → Prop := va_Qi (fun (r : Int32) (uZ : Unit) => r = at_v f n i) (fun uZ tZ => kc_pos D A [(a, .inl (kA, n, .inl f))] [] tZ) A
set_option maxHeartbeats 4000000 in
set_option maxRecDepth 100000 in
theorem ct_X11_at (l : Launch) (D : va_G) (a : Nat) (kA : ClassId) (n : Nat) (f : Nat → Int32) (i : Int32) (sz : Nat) (hn : n < 2 ^ 31) : Met l yX11_at wd_X11_at ({ frames := 0, cells := 0, slots := 0, locals := 0 }) (va_Pc [.ref a, .int i] (kc_pre D [(kA, .int)] [(a, .inl (kA, n, .inl f))] sz)) (qc_X11_at D a kA n f i (va_A [(a, .inl (kA, n, .inl f))] sz)) 0 0 (va_A [(a, .inl (kA, n, .inl f))] sz) := by
  refine Met.ofW (cc := cX11_at) (maxL := 2) (ret := (some .int)) (by decide) rfl ?_
  intro p e s m args below meth c s₁ B hml hv
  obtain ⟨rfl, hsz, hP, hK, hN, hD0⟩ := hv
  have hx := B.exec
  have hb := B.bytes
  have hr := B.returns
  have hts := atoms_spec (ws := wd_X11_at) B.pre
  have hown : s.vm.findClass RX11 = some m.cls := findClass_of_methodNamed B.named
  have hlocks := B.notSynchronized
  subst hsz
  have hD := hD0.self (sz := s.heap.size)
  generalize hAe : va_A [(a, .inl (kA, n, .inl f))] s.heap.size = A at hD ⊢
  have hA : ∀ q : Nat, s.heap.size ≤ q → A q := fun q h => by rw [← hAe]; exact Or.inr h
  have hS : va_S A s.heap s.heap [] := va_S.rf
  have hl := lv_entry ([.ref a, .int i]) (n := 2) (Nat.le_of_ble_eq_true rfl)
  rw [lg_entry_eq]
  generalize (lg_sl ([.ref a, .int i]) ++ List.replicate (2 - (lg_sl ([.ref a, .int i])).length) Slot.unset).toArray = ls at hl ⊢
  have hl : lv_has ls 2 [(0, .ref a), (1, .int i)] := hl
  refine lv_aload_n hx hb dX11_at_0 rfl (lv_at hl 0 rfl) ?_
  refine lv_ifnull hx hb dX11_at_1 ?_
  refine lv_iload_n hx hb dX11_at_4 rfl (lv_at hl 1 rfl) ?_
  refine lv_if_lt (tgt := 20) hx hb dX11_at_5 (by decide) (fun c_1 => ?_) (fun c_1 => ?_)
  · refine lv_iconst (v := 0) hx hb dX11_at_20 (by decide) ?_
    have hP9 := hP.sub (ws' := [(a, .inl (kA, n, .inl f))]) [0] rfl
    have hD9 := hD.sub (ws' := [(a, .inl (kA, n, .inl f))]) [0] (by decide) rfl
    have hK9 := hK.sub (tys' := []) [] rfl
    exact W.iret (v := 0) hx hb hr (fun tZ htZ hW => ⟨⟨0, (), rfl, (by first | exact at_lo (by assumption) | exact at_hi hn (by assumption) (by assumption)), by rw [htZ]; exact hP9, va_K.moved hW.alike hK9, hD9⟩, hS.F htZ⟩) hS.2.2 dX11_at_21
  · refine lv_iload_n hx hb dX11_at_8 rfl (lv_at hl 1 rfl) ?_
    refine lv_aload_n hx hb dX11_at_9 rfl (lv_at hl 0 rfl) ?_
    refine va_alen (v := nI n) hx hb hK hP 0 0 rfl rfl rfl dX11_at_10 ?_
    refine lv_icmp_ge (tgt := 20) hx hb dX11_at_11 (by decide) (fun c_2 => ?_) (fun c_2 => ?_)
    · refine lv_iconst (v := 0) hx hb dX11_at_20 (by decide) ?_
      have hP9 := hP.sub (ws' := [(a, .inl (kA, n, .inl f))]) [0] rfl
      have hD9 := hD.sub (ws' := [(a, .inl (kA, n, .inl f))]) [0] (by decide) rfl
      have hK9 := hK.sub (tys' := []) [] rfl
      exact W.iret (v := 0) hx hb hr (fun tZ htZ hW => ⟨⟨0, (), rfl, (by first | exact at_lo (by assumption) | exact at_hi hn (by assumption) (by assumption)), by rw [htZ]; exact hP9, va_K.moved hW.alike hK9, hD9⟩, hS.F htZ⟩) hS.2.2 dX11_at_21
    · refine lv_aload_n hx hb dX11_at_14 rfl (lv_at hl 0 rfl) ?_
      refine lv_iload_n hx hb dX11_at_15 rfl (lv_at hl 1 rfl) ?_
      refine va_iald hx hb hK hP 0 0 rfl rfl (in_of hn (by assumption) (by assumption)) dX11_at_16 ?_
      refine lv_topi (fun x_3 ex_3 => ?_)
      refine lv_goto (tgt := 21) hx hb dX11_at_17 (by decide) ?_
      have hP9 := hP.sub (ws' := [(a, .inl (kA, n, .inl f))]) [0] rfl
      have hD9 := hD.sub (ws' := [(a, .inl (kA, n, .inl f))]) [0] (by decide) rfl
      have hK9 := hK.sub (tys' := []) [] rfl
      exact W.iret (v := x_3) hx hb hr (fun tZ htZ hW => ⟨⟨x_3, (), rfl, (ex_3.trans (at_in (in_of hn (by assumption) (by assumption)))), by rw [htZ]; exact hP9, va_K.moved hW.alike hK9, hD9⟩, hS.F htZ⟩) hS.2.2 dX11_at_21
theorem dX11_put_0 : decode cX11_put 0 = .ok (.aload_n 0, 1) := by decide +kernel
theorem dX11_put_1 : decode cX11_put 1 = .ok (.ifnull 17, 3) := by decide +kernel
theorem dX11_put_4 : decode cX11_put 4 = .ok (.iload_n 1, 1) := by decide +kernel
theorem dX11_put_5 : decode cX11_put 5 = .ok (.ifCond .lt 13, 3) := by decide +kernel
theorem dX11_put_8 : decode cX11_put 8 = .ok (.iload_n 1, 1) := by decide +kernel
theorem dX11_put_9 : decode cX11_put 9 = .ok (.aload_n 0, 1) := by decide +kernel
theorem dX11_put_10 : decode cX11_put 10 = .ok (.arraylength, 1) := by decide +kernel
theorem dX11_put_11 : decode cX11_put 11 = .ok (.if_icmp .ge 7, 3) := by decide +kernel
theorem dX11_put_14 : decode cX11_put 14 = .ok (.aload_n 0, 1) := by decide +kernel
theorem dX11_put_15 : decode cX11_put 15 = .ok (.iload_n 1, 1) := by decide +kernel
theorem dX11_put_16 : decode cX11_put 16 = .ok (.iload_n 2, 1) := by decide +kernel
theorem dX11_put_17 : decode cX11_put 17 = .ok (.iastore, 1) := by decide +kernel
theorem dX11_put_18 : decode cX11_put 18 = .ok (.return_, 1) := by decide +kernel
def wo_X11_put : List Cond := []
def wd_X11_put : List Cond := .code yX11_put cX11_put 3 none :: (wo_X11_put ++ ([] : List Cond))
theorem hd_X11_put : yX11_put.cls ≠ "java/lang/invoke/MethodHandle" ∧ yX11_put.cls ≠ "java/lang/invoke/VarHandle" ∧ (parseMethodDescriptor yX11_put.desc).map (fun d => d.parameters.length) = some 3 := by decide +kernel
set_option maxRecDepth 20000 in
theorem gw_X11_put : wd_X11_put.all goodWord = true := by decide +kernel
abbrev qc_X11_put (D : va_G) (a : Nat) (kA : ClassId) (n : Nat) (f : Nat → Int32) (i : Int32) (x : Int32) (A : Nat → Prop) : Array Value → State → Outcome → State → Prop := va_Qv (fun (uZ : (Nat → Int32)) => uZ = put_v f n i x) (fun uZ tZ => kc_pos D A [(a, .inl (kA, n, .inl uZ))] [] tZ) A
set_option maxHeartbeats 4000000 in
set_option maxRecDepth 100000 in
theorem ct_X11_put (l : Launch) (D : va_G) (a : Nat) (kA : ClassId) (n : Nat) (f : Nat → Int32) (i : Int32) (x : Int32) (sz : Nat) (hn : n < 2 ^ 31) : Met l yX11_put wd_X11_put ({ frames := 0, cells := 0, slots := 0, locals := 0 }) (va_Pc [.ref a, .int i, .int x] (kc_pre D [(kA, .int)] [(a, .inl (kA, n, .inl f))] sz)) (qc_X11_put D a kA n f i x (va_A [(a, .inl (kA, n, .inl f))] sz)) 0 0 (va_A [(a, .inl (kA, n, .inl f))] sz) := by
  refine Met.ofW (cc := cX11_put) (maxL := 3) (ret := none) (by decide) rfl ?_
  intro p e s m args below meth c s₁ B hml hv
  obtain ⟨rfl, hsz, hP, hK, hN, hD0⟩ := hv
  have hx := B.exec
  have hb := B.bytes
  have hr := B.returns
  have hts := atoms_spec (ws := wd_X11_put) B.pre
  have hown : s.vm.findClass RX11 = some m.cls := findClass_of_methodNamed B.named
  have hlocks := B.notSynchronized
  subst hsz
  have hD := hD0.self (sz := s.heap.size)
  generalize hAe : va_A [(a, .inl (kA, n, .inl f))] s.heap.size = A at hD ⊢
  have hA : ∀ q : Nat, s.heap.size ≤ q → A q := fun q h => by rw [← hAe]; exact Or.inr h
  have hS : va_S A s.heap s.heap [] := va_S.rf
  have hl := lv_entry ([.ref a, .int i, .int x]) (n := 3) (Nat.le_of_ble_eq_true rfl)
  rw [lg_entry_eq]
  generalize (lg_sl ([.ref a, .int i, .int x]) ++ List.replicate (3 - (lg_sl ([.ref a, .int i, .int x])).length) Slot.unset).toArray = ls at hl ⊢
  have hl : lv_has ls 3 [(0, .ref a), (1, .int i), (2, .int x)] := hl
  refine lv_aload_n hx hb dX11_put_0 rfl (lv_at hl 0 rfl) ?_
  refine lv_ifnull hx hb dX11_put_1 ?_
  refine lv_iload_n hx hb dX11_put_4 rfl (lv_at hl 1 rfl) ?_
  refine lv_if_lt (tgt := 18) hx hb dX11_put_5 (by decide) (fun c_1 => ?_) (fun c_1 => ?_)
  · have hP9 := hP.sub (ws' := [(a, .inl (kA, n, .inl f))]) [0] rfl
    have hD9 := hD.sub (ws' := [(a, .inl (kA, n, .inl f))]) [0] (by decide) rfl
    have hK9 := hK.sub (tys' := []) [] rfl
    exact W.vret hx hb hr (fun tZ htZ hW => ⟨⟨f, rfl, (by first | exact put_lo (by assumption) | exact put_hi hn (by assumption) (by assumption) | exact (by assumption : _ = _).symm.trans (put_in (in_of hn (by assumption) (by assumption)))), by rw [htZ]; exact hP9, va_K.moved hW.alike hK9, hD9⟩, hS.F htZ⟩) hS.2.2 dX11_put_18
  · refine lv_iload_n hx hb dX11_put_8 rfl (lv_at hl 1 rfl) ?_
    refine lv_aload_n hx hb dX11_put_9 rfl (lv_at hl 0 rfl) ?_
    refine va_alen (v := nI n) hx hb hK hP 0 0 rfl rfl rfl dX11_put_10 ?_
    refine lv_icmp_ge (tgt := 18) hx hb dX11_put_11 (by decide) (fun c_2 => ?_) (fun c_2 => ?_)
    · have hP9 := hP.sub (ws' := [(a, .inl (kA, n, .inl f))]) [0] rfl
      have hD9 := hD.sub (ws' := [(a, .inl (kA, n, .inl f))]) [0] (by decide) rfl
      have hK9 := hK.sub (tys' := []) [] rfl
      exact W.vret hx hb hr (fun tZ htZ hW => ⟨⟨f, rfl, (by first | exact put_lo (by assumption) | exact put_hi hn (by assumption) (by assumption) | exact (by assumption : _ = _).symm.trans (put_in (in_of hn (by assumption) (by assumption)))), by rw [htZ]; exact hP9, va_K.moved hW.alike hK9, hD9⟩, hS.F htZ⟩) hS.2.2 dX11_put_18
    · refine lv_aload_n hx hb dX11_put_14 rfl (lv_at hl 0 rfl) ?_
      refine lv_iload_n hx hb dX11_put_15 rfl (lv_at hl 1 rfl) ?_
      refine lv_iload_n hx hb dX11_put_16 rfl (lv_at hl 2 rfl) ?_
      refine va_iast hx hb hK hP hD hS 0 0 rfl rfl (in_of hn (by assumption) (by assumption)) dX11_put_17 (fun H locs hP hD hS => ?_)
      generalize ef_3 : upd f i.toNatClampNeg x = f_3 at hP hD
      have hP : va_P D vwCl [(a, .inl (kA, n, .inl f_3))] H := hP
      have hD : va_D A [(a, .inl (kA, n, .inl f_3))] := hD
      have hP9 := hP.sub (ws' := [(a, .inl (kA, n, .inl f_3))]) [0] rfl
      have hD9 := hD.sub (ws' := [(a, .inl (kA, n, .inl f_3))]) [0] (by decide) rfl
      have hK9 := hK.sub (tys' := []) [] rfl
      exact W.vret hx hb hr (fun tZ htZ hW => ⟨⟨f_3, rfl, (by first | exact put_lo (by assumption) | exact put_hi hn (by assumption) (by assumption) | exact (by assumption : _ = _).symm.trans (put_in (in_of hn (by assumption) (by assumption)))), by rw [htZ]; exact hP9, va_K.moved hW.alike hK9, hD9⟩, hS.F htZ⟩) hS.2.2 dX11_put_18
theorem dX11_wideAt_0 : decode cX11_wideAt 0 = .ok (.aload_n 0, 1) := by decide +kernel
theorem dX11_wideAt_1 : decode cX11_wideAt 1 = .ok (.ifnull 19, 3) := by decide +kernel
theorem dX11_wideAt_4 : decode cX11_wideAt 4 = .ok (.iload_n 1, 1) := by decide +kernel
theorem dX11_wideAt_5 : decode cX11_wideAt 5 = .ok (.ifCond .lt 15, 3) := by decide +kernel
theorem dX11_wideAt_8 : decode cX11_wideAt 8 = .ok (.iload_n 1, 1) := by decide +kernel
theorem dX11_wideAt_9 : decode cX11_wideAt 9 = .ok (.aload_n 0, 1) := by decide +kernel
theorem dX11_wideAt_10 : decode cX11_wideAt 10 = .ok (.arraylength, 1) := by decide +kernel
theorem dX11_wideAt_11 : decode cX11_wideAt 11 = .ok (.if_icmp .ge 9, 3) := by decide +kernel
theorem dX11_wideAt_14 : decode cX11_wideAt 14 = .ok (.aload_n 0, 1) := by decide +kernel
theorem dX11_wideAt_15 : decode cX11_wideAt 15 = .ok (.iload_n 1, 1) := by decide +kernel
theorem dX11_wideAt_16 : decode cX11_wideAt 16 = .ok (.laload, 1) := by decide +kernel
theorem dX11_wideAt_17 : decode cX11_wideAt 17 = .ok (.goto 4, 3) := by decide +kernel
theorem dX11_wideAt_20 : decode cX11_wideAt 20 = .ok (.lconst 0, 1) := by decide +kernel
theorem dX11_wideAt_21 : decode cX11_wideAt 21 = .ok (.lreturn, 1) := by decide +kernel
def wo_X11_wideAt : List Cond := []
def wd_X11_wideAt : List Cond := .code yX11_wideAt cX11_wideAt 2 (some .long) :: (wo_X11_wideAt ++ ([] : List Cond))
theorem hd_X11_wideAt : yX11_wideAt.cls ≠ "java/lang/invoke/MethodHandle" ∧ yX11_wideAt.cls ≠ "java/lang/invoke/VarHandle" ∧ (parseMethodDescriptor yX11_wideAt.desc).map (fun d => d.parameters.length) = some 2 := by decide +kernel
set_option maxRecDepth 20000 in
theorem gw_X11_wideAt : wd_X11_wideAt.all goodWord = true := by decide +kernel
abbrev qc_X11_wideAt (D : va_G) (a : Nat) (kA : ClassId) (n : Nat) (f : Nat → Int64) (i : Int32) (A : Nat → Prop) : Array Value → State → Outcome → State → Prop := va_Ql (fun (r : Int64) (uZ : Unit) => r = atL_v f n i) (fun uZ tZ => kc_pos D A [(a, .inl (kA, n, .inr (.inl f)))] [] tZ) A
set_option maxHeartbeats 4000000 in
set_option maxRecDepth 100000 in
theorem ct_X11_wideAt (l : Launch) (D : va_G) (a : Nat) (kA : ClassId) (n : Nat) (f : Nat → Int64) (i : Int32) (sz : Nat) (hn : n < 2 ^ 31) : Met l yX11_wideAt wd_X11_wideAt ({ frames := 0, cells := 0, slots := 0, locals := 0 }) (va_Pc [.ref a, .int i] (kc_pre D [(kA, .long)] [(a, .inl (kA, n, .inr (.inl f)))] sz)) (qc_X11_wideAt D a kA n f i (va_A [(a, .inl (kA, n, .inr (.inl f)))] sz)) 0 0 (va_A [(a, .inl (kA, n, .inr (.inl f)))] sz) := by
  refine Met.ofW (cc := cX11_wideAt) (maxL := 2) (ret := (some .long)) (by decide) rfl ?_
  intro p e s m args below meth c s₁ B hml hv
  obtain ⟨rfl, hsz, hP, hK, hN, hD0⟩ := hv
  have hx := B.exec
  have hb := B.bytes
  have hr := B.returns
  have hts := atoms_spec (ws := wd_X11_wideAt) B.pre
  have hown : s.vm.findClass RX11 = some m.cls := findClass_of_methodNamed B.named
  have hlocks := B.notSynchronized
  subst hsz
  have hD := hD0.self (sz := s.heap.size)
  generalize hAe : va_A [(a, .inl (kA, n, .inr (.inl f)))] s.heap.size = A at hD ⊢
  have hA : ∀ q : Nat, s.heap.size ≤ q → A q := fun q h => by rw [← hAe]; exact Or.inr h
  have hS : va_S A s.heap s.heap [] := va_S.rf
  have hl := lv_entry ([.ref a, .int i]) (n := 2) (Nat.le_of_ble_eq_true rfl)
  rw [lg_entry_eq]
  generalize (lg_sl ([.ref a, .int i]) ++ List.replicate (2 - (lg_sl ([.ref a, .int i])).length) Slot.unset).toArray = ls at hl ⊢
  have hl : lv_has ls 2 [(0, .ref a), (1, .int i)] := hl
  refine lv_aload_n hx hb dX11_wideAt_0 rfl (lv_at hl 0 rfl) ?_
  refine lv_ifnull hx hb dX11_wideAt_1 ?_
  refine lv_iload_n hx hb dX11_wideAt_4 rfl (lv_at hl 1 rfl) ?_
  refine lv_if_lt (tgt := 20) hx hb dX11_wideAt_5 (by decide) (fun c_1 => ?_) (fun c_1 => ?_)
  · refine lv_lconst (v := 0) hx hb dX11_wideAt_20 (by decide) ?_
    have hP9 := hP.sub (ws' := [(a, .inl (kA, n, .inr (.inl f)))]) [0] rfl
    have hD9 := hD.sub (ws' := [(a, .inl (kA, n, .inr (.inl f)))]) [0] (by decide) rfl
    have hK9 := hK.sub (tys' := []) [] rfl
    exact W.lret (v := 0) hx hb hr (fun tZ htZ hW => ⟨⟨0, (), rfl, (by first | exact atL_lo (by assumption) | exact atL_hi hn (by assumption) (by assumption)), by rw [htZ]; exact hP9, va_K.moved hW.alike hK9, hD9⟩, hS.F htZ⟩) hS.2.2 dX11_wideAt_21
  · refine lv_iload_n hx hb dX11_wideAt_8 rfl (lv_at hl 1 rfl) ?_
    refine lv_aload_n hx hb dX11_wideAt_9 rfl (lv_at hl 0 rfl) ?_
    refine va_alen (v := nI n) hx hb hK hP 0 0 rfl rfl rfl dX11_wideAt_10 ?_
    refine lv_icmp_ge (tgt := 20) hx hb dX11_wideAt_11 (by decide) (fun c_2 => ?_) (fun c_2 => ?_)
    · refine lv_lconst (v := 0) hx hb dX11_wideAt_20 (by decide) ?_
      have hP9 := hP.sub (ws' := [(a, .inl (kA, n, .inr (.inl f)))]) [0] rfl
      have hD9 := hD.sub (ws' := [(a, .inl (kA, n, .inr (.inl f)))]) [0] (by decide) rfl
      have hK9 := hK.sub (tys' := []) [] rfl
      exact W.lret (v := 0) hx hb hr (fun tZ htZ hW => ⟨⟨0, (), rfl, (by first | exact atL_lo (by assumption) | exact atL_hi hn (by assumption) (by assumption)), by rw [htZ]; exact hP9, va_K.moved hW.alike hK9, hD9⟩, hS.F htZ⟩) hS.2.2 dX11_wideAt_21
    · refine lv_aload_n hx hb dX11_wideAt_14 rfl (lv_at hl 0 rfl) ?_
      refine lv_iload_n hx hb dX11_wideAt_15 rfl (lv_at hl 1 rfl) ?_
      refine va_lald hx hb hK hP 0 0 rfl rfl (in_of hn (by assumption) (by assumption)) dX11_wideAt_16 ?_
      refine lv_topl (fun y_3 ey_3 => ?_)
      refine lv_goto (tgt := 21) hx hb dX11_wideAt_17 (by decide) ?_
      have hP9 := hP.sub (ws' := [(a, .inl (kA, n, .inr (.inl f)))]) [0] rfl
      have hD9 := hD.sub (ws' := [(a, .inl (kA, n, .inr (.inl f)))]) [0] (by decide) rfl
      have hK9 := hK.sub (tys' := []) [] rfl
      exact W.lret (v := y_3) hx hb hr (fun tZ htZ hW => ⟨⟨y_3, (), rfl, (ey_3.trans (atL_in (in_of hn (by assumption) (by assumption)))), by rw [htZ]; exact hP9, va_K.moved hW.alike hK9, hD9⟩, hS.F htZ⟩) hS.2.2 dX11_wideAt_21
theorem dX11_putWide_0 : decode cX11_putWide 0 = .ok (.aload_n 0, 1) := by decide +kernel
theorem dX11_putWide_1 : decode cX11_putWide 1 = .ok (.ifnull 17, 3) := by decide +kernel
theorem dX11_putWide_4 : decode cX11_putWide 4 = .ok (.iload_n 1, 1) := by decide +kernel
theorem dX11_putWide_5 : decode cX11_putWide 5 = .ok (.ifCond .lt 13, 3) := by decide +kernel
theorem dX11_putWide_8 : decode cX11_putWide 8 = .ok (.iload_n 1, 1) := by decide +kernel
theorem dX11_putWide_9 : decode cX11_putWide 9 = .ok (.aload_n 0, 1) := by decide +kernel
theorem dX11_putWide_10 : decode cX11_putWide 10 = .ok (.arraylength, 1) := by decide +kernel
theorem dX11_putWide_11 : decode cX11_putWide 11 = .ok (.if_icmp .ge 7, 3) := by decide +kernel
theorem dX11_putWide_14 : decode cX11_putWide 14 = .ok (.aload_n 0, 1) := by decide +kernel
theorem dX11_putWide_15 : decode cX11_putWide 15 = .ok (.iload_n 1, 1) := by decide +kernel
theorem dX11_putWide_16 : decode cX11_putWide 16 = .ok (.lload_n 2, 1) := by decide +kernel
theorem dX11_putWide_17 : decode cX11_putWide 17 = .ok (.lastore, 1) := by decide +kernel
theorem dX11_putWide_18 : decode cX11_putWide 18 = .ok (.return_, 1) := by decide +kernel
def wo_X11_putWide : List Cond := []
def wd_X11_putWide : List Cond := .code yX11_putWide cX11_putWide 4 none :: (wo_X11_putWide ++ ([] : List Cond))
theorem hd_X11_putWide : yX11_putWide.cls ≠ "java/lang/invoke/MethodHandle" ∧ yX11_putWide.cls ≠ "java/lang/invoke/VarHandle" ∧ (parseMethodDescriptor yX11_putWide.desc).map (fun d => d.parameters.length) = some 3 := by decide +kernel
set_option maxRecDepth 20000 in
theorem gw_X11_putWide : wd_X11_putWide.all goodWord = true := by decide +kernel
abbrev qc_X11_putWide (D : va_G) (a : Nat) (kA : ClassId) (n : Nat) (f : Nat → Int64) (i : Int32) (x : Int64) (A : Nat → Prop) : Array Value → State → Outcome → State → Prop := va_Qv (fun (uZ : (Nat → Int64)) => uZ = putL_v f n i x) (fun uZ tZ => kc_pos D A [(a, .inl (kA, n, .inr (.inl uZ)))] [] tZ) A
set_option maxHeartbeats 4000000 in
set_option maxRecDepth 100000 in
theorem ct_X11_putWide (l : Launch) (D : va_G) (a : Nat) (kA : ClassId) (n : Nat) (f : Nat → Int64) (i : Int32) (x : Int64) (sz : Nat) (hn : n < 2 ^ 31) : Met l yX11_putWide wd_X11_putWide ({ frames := 0, cells := 0, slots := 0, locals := 0 }) (va_Pc [.ref a, .int i, .long x] (kc_pre D [(kA, .long)] [(a, .inl (kA, n, .inr (.inl f)))] sz)) (qc_X11_putWide D a kA n f i x (va_A [(a, .inl (kA, n, .inr (.inl f)))] sz)) 0 0 (va_A [(a, .inl (kA, n, .inr (.inl f)))] sz) := by
  refine Met.ofW (cc := cX11_putWide) (maxL := 4) (ret := none) (by decide) rfl ?_
  intro p e s m args below meth c s₁ B hml hv
  obtain ⟨rfl, hsz, hP, hK, hN, hD0⟩ := hv
  have hx := B.exec
  have hb := B.bytes
  have hr := B.returns
  have hts := atoms_spec (ws := wd_X11_putWide) B.pre
  have hown : s.vm.findClass RX11 = some m.cls := findClass_of_methodNamed B.named
  have hlocks := B.notSynchronized
  subst hsz
  have hD := hD0.self (sz := s.heap.size)
  generalize hAe : va_A [(a, .inl (kA, n, .inr (.inl f)))] s.heap.size = A at hD ⊢
  have hA : ∀ q : Nat, s.heap.size ≤ q → A q := fun q h => by rw [← hAe]; exact Or.inr h
  have hS : va_S A s.heap s.heap [] := va_S.rf
  have hl := lv_entry ([.ref a, .int i, .long x]) (n := 4) (Nat.le_of_ble_eq_true rfl)
  rw [lg_entry_eq]
  generalize (lg_sl ([.ref a, .int i, .long x]) ++ List.replicate (4 - (lg_sl ([.ref a, .int i, .long x])).length) Slot.unset).toArray = ls at hl ⊢
  have hl : lv_has ls 4 [(0, .ref a), (1, .int i), (2, .long x)] := hl
  refine lv_aload_n hx hb dX11_putWide_0 rfl (lv_at hl 0 rfl) ?_
  refine lv_ifnull hx hb dX11_putWide_1 ?_
  refine lv_iload_n hx hb dX11_putWide_4 rfl (lv_at hl 1 rfl) ?_
  refine lv_if_lt (tgt := 18) hx hb dX11_putWide_5 (by decide) (fun c_1 => ?_) (fun c_1 => ?_)
  · have hP9 := hP.sub (ws' := [(a, .inl (kA, n, .inr (.inl f)))]) [0] rfl
    have hD9 := hD.sub (ws' := [(a, .inl (kA, n, .inr (.inl f)))]) [0] (by decide) rfl
    have hK9 := hK.sub (tys' := []) [] rfl
    exact W.vret hx hb hr (fun tZ htZ hW => ⟨⟨f, rfl, (by first | exact putL_lo (by assumption) | exact putL_hi hn (by assumption) (by assumption) | exact (by assumption : _ = _).symm.trans (putL_in (in_of hn (by assumption) (by assumption)))), by rw [htZ]; exact hP9, va_K.moved hW.alike hK9, hD9⟩, hS.F htZ⟩) hS.2.2 dX11_putWide_18
  · refine lv_iload_n hx hb dX11_putWide_8 rfl (lv_at hl 1 rfl) ?_
    refine lv_aload_n hx hb dX11_putWide_9 rfl (lv_at hl 0 rfl) ?_
    refine va_alen (v := nI n) hx hb hK hP 0 0 rfl rfl rfl dX11_putWide_10 ?_
    refine lv_icmp_ge (tgt := 18) hx hb dX11_putWide_11 (by decide) (fun c_2 => ?_) (fun c_2 => ?_)
    · have hP9 := hP.sub (ws' := [(a, .inl (kA, n, .inr (.inl f)))]) [0] rfl
      have hD9 := hD.sub (ws' := [(a, .inl (kA, n, .inr (.inl f)))]) [0] (by decide) rfl
      have hK9 := hK.sub (tys' := []) [] rfl
      exact W.vret hx hb hr (fun tZ htZ hW => ⟨⟨f, rfl, (by first | exact putL_lo (by assumption) | exact putL_hi hn (by assumption) (by assumption) | exact (by assumption : _ = _).symm.trans (putL_in (in_of hn (by assumption) (by assumption)))), by rw [htZ]; exact hP9, va_K.moved hW.alike hK9, hD9⟩, hS.F htZ⟩) hS.2.2 dX11_putWide_18
    · refine lv_aload_n hx hb dX11_putWide_14 rfl (lv_at hl 0 rfl) ?_
      refine lv_iload_n hx hb dX11_putWide_15 rfl (lv_at hl 1 rfl) ?_
      refine lv_lload_n hx hb dX11_putWide_16 rfl (lv_at hl 2 rfl) ?_
      refine va_last hx hb hK hP hD hS 0 0 rfl rfl (in_of hn (by assumption) (by assumption)) dX11_putWide_17 (fun H locs hP hD hS => ?_)
      generalize ef_3 : vp_updL f i.toNatClampNeg x = f_3 at hP hD
      have hP : va_P D vwCl [(a, .inl (kA, n, .inr (.inl f_3)))] H := hP
      have hD : va_D A [(a, .inl (kA, n, .inr (.inl f_3)))] := hD
      have hP9 := hP.sub (ws' := [(a, .inl (kA, n, .inr (.inl f_3)))]) [0] rfl
      have hD9 := hD.sub (ws' := [(a, .inl (kA, n, .inr (.inl f_3)))]) [0] (by decide) rfl
      have hK9 := hK.sub (tys' := []) [] rfl
      exact W.vret hx hb hr (fun tZ htZ hW => ⟨⟨f_3, rfl, (by first | exact putL_lo (by assumption) | exact putL_hi hn (by assumption) (by assumption) | exact (by assumption : _ = _).symm.trans (putL_in (in_of hn (by assumption) (by assumption)))), by rw [htZ]; exact hP9, va_K.moved hW.alike hK9, hD9⟩, hS.F htZ⟩) hS.2.2 dX11_putWide_18
theorem dJ7_fill_53178_0 : decode cJ7_fill_53178 0 = .ok (.iconst 0, 1) := by decide +kernel
theorem dJ7_fill_53178_1 : decode cJ7_fill_53178 1 = .ok (.istore_n 2, 1) := by decide +kernel
theorem dJ7_fill_53178_2 : decode cJ7_fill_53178 2 = .ok (.aload_n 0, 1) := by decide +kernel
theorem dJ7_fill_53178_3 : decode cJ7_fill_53178 3 = .ok (.arraylength, 1) := by decide +kernel
theorem dJ7_fill_53178_4 : decode cJ7_fill_53178 4 = .ok (.istore_n 3, 1) := by decide +kernel
theorem dJ7_fill_53178_5 : decode cJ7_fill_53178 5 = .ok (.iload_n 2, 1) := by decide +kernel
theorem dJ7_fill_53178_6 : decode cJ7_fill_53178 6 = .ok (.iload_n 3, 1) := by decide +kernel
theorem dJ7_fill_53178_7 : decode cJ7_fill_53178 7 = .ok (.if_icmp .ge 13, 3) := by decide +kernel
theorem dJ7_fill_53178_10 : decode cJ7_fill_53178 10 = .ok (.aload_n 0, 1) := by decide +kernel
theorem dJ7_fill_53178_11 : decode cJ7_fill_53178 11 = .ok (.iload_n 2, 1) := by decide +kernel
theorem dJ7_fill_53178_12 : decode cJ7_fill_53178 12 = .ok (.iload_n 1, 1) := by decide +kernel
theorem dJ7_fill_53178_13 : decode cJ7_fill_53178 13 = .ok (.iastore, 1) := by decide +kernel
theorem dJ7_fill_53178_14 : decode cJ7_fill_53178 14 = .ok (.iinc 2 1, 3) := by decide +kernel
theorem dJ7_fill_53178_17 : decode cJ7_fill_53178 17 = .ok (.goto (-12), 3) := by decide +kernel
theorem dJ7_fill_53178_20 : decode cJ7_fill_53178 20 = .ok (.return_, 1) := by decide +kernel
def wo_J7_fill_53178 : List Cond := []
def wd_J7_fill_53178 : List Cond := .code yJ7_fill_53178 cJ7_fill_53178 4 none :: (wo_J7_fill_53178 ++ ([] : List Cond))
theorem hd_J7_fill_53178 : yJ7_fill_53178.cls ≠ "java/lang/invoke/MethodHandle" ∧ yJ7_fill_53178.cls ≠ "java/lang/invoke/VarHandle" ∧ (parseMethodDescriptor yJ7_fill_53178.desc).map (fun d => d.parameters.length) = some 2 := by decide +kernel
set_option maxRecDepth 20000 in
theorem gw_J7_fill_53178 : wd_J7_fill_53178.all goodWord = true := by decide +kernel
abbrev qc_J7_fill_53178 (D : va_G) (a : Nat) (kA : ClassId) (n : Nat) (f : Nat → Int32) (v : Int32) (A : Nat → Prop) : Array Value → State → Outcome → State → Prop := va_Qv (fun (uZ : (Nat → Int32)) => ∀ k, k < n → uZ k = v) (fun uZ tZ => kc_pos D A [(a, .inl (kA, n, .inl uZ))] [] tZ) A
set_option maxHeartbeats 4000000 in
set_option maxRecDepth 100000 in
theorem ct_J7_fill_53178 (l : Launch) (D : va_G) (a : Nat) (kA : ClassId) (n : Nat) (f : Nat → Int32) (v : Int32) (sz : Nat) (hn : n < 2 ^ 31) : Met l yJ7_fill_53178 wd_J7_fill_53178 ({ frames := 0, cells := 0, slots := 0, locals := 0 }) (va_Pc [.ref a, .int v] (kc_pre D [(kA, .int)] [(a, .inl (kA, n, .inl f))] sz)) (qc_J7_fill_53178 D a kA n f v (va_A [(a, .inl (kA, n, .inl f))] sz)) 0 0 (va_A [(a, .inl (kA, n, .inl f))] sz) := by
  refine Met.ofW (cc := cJ7_fill_53178) (maxL := 4) (ret := none) (by decide) rfl ?_
  intro p e s m args below meth c s₁ B hml hv
  obtain ⟨rfl, hsz, hP, hK, hN, hD0⟩ := hv
  have hx := B.exec
  have hb := B.bytes
  have hr := B.returns
  have hts := atoms_spec (ws := wd_J7_fill_53178) B.pre
  have hown : s.vm.findClass RJ7 = some m.cls := findClass_of_methodNamed B.named
  have hlocks := B.notSynchronized
  subst hsz
  have hD := hD0.self (sz := s.heap.size)
  generalize hAe : va_A [(a, .inl (kA, n, .inl f))] s.heap.size = A at hD ⊢
  have hA : ∀ q : Nat, s.heap.size ≤ q → A q := fun q h => by rw [← hAe]; exact Or.inr h
  have hS : va_S A s.heap s.heap [] := va_S.rf
  have hl := lv_entry ([.ref a, .int v]) (n := 4) (Nat.le_of_ble_eq_true rfl)
  rw [lg_entry_eq]
  generalize (lg_sl ([.ref a, .int v]) ++ List.replicate (4 - (lg_sl ([.ref a, .int v])).length) Slot.unset).toArray = ls at hl ⊢
  have hl : lv_has ls 4 [(0, .ref a), (1, .int v)] := hl
  refine lv_iconst (v := 0) hx hb dJ7_fill_53178_0 (by decide) ?_
  refine lv_istore_n (lv' := [(2, .int 0), (0, .ref a), (1, .int v)]) hx hb dJ7_fill_53178_1 rfl hl (by decide) rfl (fun ls hl => ?_)
  refine lv_aload_n hx hb dJ7_fill_53178_2 rfl (lv_at hl 1 rfl) ?_
  refine va_alen (v := nI n) hx hb hK hP 0 0 rfl rfl rfl dJ7_fill_53178_3 ?_
  refine lv_istore_n (lv' := [(3, .int (nI n)), (2, .int 0), (0, .ref a), (1, .int v)]) hx hb dJ7_fill_53178_4 rfl hl (by decide) rfl (fun ls hl => ?_)
  have lp_1 : ∀ (fu_3 : Nat) (j : Nat) (g : Nat → Int32) (H : Heap) (locs : List Loc) (ls : Array Slot), (j ≤ n) → (∀ k, k < j → g k = v) → n - j < fu_3 → va_P D vwCl [(a, .inl (kA, n, .inl g))] H → va_D A [(a, .inl (kA, n, .inl g))] → va_S A s.heap H locs → lv_has ls 4 [(3, .int (nI n)), (2, .int (nI j)), (0, .ref a), (1, .int v)] → W p l e (headSpec wd_J7_fill_53178 ({ frames := 0, cells := 0, slots := 0, locals := 0 })).room s m [.ref a, .int v].toArray below meth c H locs 0 0 (MQ below (qc_J7_fill_53178 D a kA n f v A) [.ref a, .int v].toArray s 0 0 A) (F0 m 5 ls []) := by
    intro fu_3
    induction fu_3 with
    | zero => intro j g H locs ls hj hg hf; exact absurd hf (Nat.not_lt_zero _)
    | succ fu_3 ih_2 =>
      intro j g H locs ls hj hg hf hP hD hS hl
      refine lv_iload_n hx hb dJ7_fill_53178_5 rfl (lv_at hl 1 rfl) ?_
      refine lv_iload_n hx hb dJ7_fill_53178_6 rfl (lv_at hl 0 rfl) ?_
      refine lv_icmp_ge (tgt := 20) hx hb dJ7_fill_53178_7 (by decide) (fun c_4 => ?_) (fun c_4 => ?_)
      · have hP9 := hP.sub (ws' := [(a, .inl (kA, n, .inl g))]) [0] rfl
        have hD9 := hD.sub (ws' := [(a, .inl (kA, n, .inl g))]) [0] (by decide) rfl
        have hK9 := hK.sub (tys' := []) [] rfl
        exact W.vret hx hb hr (fun tZ htZ hW => ⟨⟨g, rfl, (fun k hk => hg k (Nat.lt_of_lt_of_le hk (nk_ge hn hj c_4))), by rw [htZ]; exact hP9, va_K.moved hW.alike hK9, hD9⟩, hS.F htZ⟩) hS.2.2 dJ7_fill_53178_20
      · refine lv_aload_n hx hb dJ7_fill_53178_10 rfl (lv_at hl 2 rfl) ?_
        refine lv_iload_n hx hb dJ7_fill_53178_11 rfl (lv_at hl 1 rfl) ?_
        refine lv_iload_n hx hb dJ7_fill_53178_12 rfl (lv_at hl 3 rfl) ?_
        refine va_iast hx hb hK hP hD hS 0 0 rfl rfl (vp_in_nI (nk_lt hn hj c_4) hn) dJ7_fill_53178_13 (fun H locs hP hD hS => ?_)
        have hP : va_P D vwCl [(a, .inl (kA, n, .inl (upd g (nI j).toNatClampNeg v)))] H := hP
        have hD : va_D A [(a, .inl (kA, n, .inl (upd g (nI j).toNatClampNeg v)))] := hD
        refine lv_iinc (v := nI (j + 1)) (lv' := [(2, .int (nI (j + 1))), (3, .int (nI n)), (0, .ref a), (1, .int v)]) hx hb dJ7_fill_53178_14 hl (k := 1) rfl (by rw [← nI_1]; rfl) (by decide) rfl (fun ls hl => ?_)
        refine lv_goto (tgt := 5) hx hb dJ7_fill_53178_17 (by decide) ?_
        exact ih_2 (j + 1) (upd g (nI j).toNatClampNeg v) _ _ _ (nk_lt hn hj c_4) (fill_step (by omega) hg) (by have := nk_lt hn hj c_4; omega) (hP.sub [0] rfl) (hD.sub [0] (by decide) rfl) hS (lv_sub hl [1, 0, 2, 3] rfl)
  exact lp_1 _ 0 f _ _ _ (Nat.zero_le _) (fun k hk => absurd hk (Nat.not_lt_zero k)) (Nat.lt_succ_self _) hP hD hS (lv_sub hl [0, 1, 2, 3] rfl)
