theorem hd_X12_init : yX12_init.cls ≠ "java/lang/invoke/MethodHandle" ∧ yX12_init.cls ≠ "java/lang/invoke/VarHandle" ∧ (parseMethodDescriptor yX12_init.desc).map (fun d => d.parameters.length) = some 0 := by decide +kernel
set_option maxHeartbeats 4000000 in
set_option maxRecDepth 100000 in
theorem whole_start {p : Program} {e : Env} {s : State} {m : MethodId} {below : List Frame} {meth : Method} {c : Code} (l : Launch) (hflags : l.flags = flags0) {b L : Nat} {xs : Nat → Int32} (hL : L ≤ 6) (C0 : lw_At p s m meth c b L xs) : W p l e room_1 s m #[Value.ref b] below meth c s.heap [] 0 0 (lw_Z below #[Value.ref b] s) (entryFrame m ([Value.ref b] : List Value).toArray 4) := by
  obtain ⟨hx, hb, hr, hml, hown, hts, hX, hbl, hlocks, hgv⟩ := id C0
  have hA : ∀ q : Nat, s.heap.size ≤ q → (fun q : Nat => s.heap.size ≤ q) q := fun _ h => h
  have hbA : ¬ (fun q : Nat => s.heap.size ≤ q) b := Nat.not_le.mpr hbl
  have hN : nw_ok s := ⟨fun t ht => va_Nw.of rfl (hts _ (nw_in _ (List.mem_map.mpr ⟨t, ht, rfl⟩))), va_AOA.of (hts _ (List.mem_of_getElem? (i := 1544) (by decide +kernel))), va_AOA.of (hts _ (List.mem_of_getElem? (i := 1542) (by decide +kernel)))⟩
  obtain ⟨c0, iS0, hKn0⟩ := u_known (C := RX0) (T := TX0) (N := 3) (n := 3) hts tb_wsX00 (hts (.instantiable RX0 3) (mo_law_7 23 rfl))
  obtain ⟨c1, iS1, hKn1⟩ := u_known (C := RX1) (T := TX1) (N := 6) (n := 6) hts tb_wsX10 (hts (.instantiable RX1 6) (mo_law_7 24 rfl))
  obtain ⟨c2, iS2, hKn2⟩ := u_known (C := RX2) (T := TX2) (N := 13) (n := 13) hts tb_wsX20 (hts (.instantiable RX2 13) (mo_law_7 25 rfl))
  obtain ⟨c3, iS3, hKn3⟩ := u_known (C := RX3) (T := TX3) (N := 3) (n := 3) hts tb_wsX30 (hts (.instantiable RX3 3) (mo_law_7 26 rfl))
  obtain ⟨c4, iS4, hKn4⟩ := u_known (C := RX4) (T := TX4) (N := 8) (n := 8) hts tb_wsX40 (hts (.instantiable RX4 8) (mo_law_7 27 rfl))
  obtain ⟨c5, iS5, hKn5⟩ := u_known (C := RX5) (T := TX5) (N := 5) (n := 5) hts tb_wsX50 (hts (.instantiable RX5 5) (mo_law_7 28 rfl))
  obtain ⟨c6, iS6, hKn6⟩ := u_known (C := RX6) (T := TX6) (N := 12) (n := 12) hts tb_wsX60 (hts (.instantiable RX6 12) (mo_law_7 29 rfl))
  obtain ⟨c7, iS7, hKn7⟩ := u_known (C := RX7) (T := TX7) (N := 3) (n := 3) hts tb_wsX70 (hts (.instantiable RX7 3) (mo_law_7 30 rfl))
  obtain ⟨c8, iS8, hKn8⟩ := u_known (C := RX8) (T := TX8) (N := 15) (n := 15) hts tb_wsX80 (hts (.instantiable RX8 15) (mo_law_7 31 rfl))
  obtain ⟨c9, iS9, hKn9⟩ := u_known (C := RX9) (T := TX9) (N := 4) (n := 4) hts tb_wsX90 (hts (.instantiable RX9 4) (mo_law_7 32 rfl))
  obtain ⟨c10, iS10, hKn10⟩ := u_known (C := RX10) (T := TX10) (N := 5) (n := 5) hts tb_wsX100 (hts (.instantiable RX10 5) (mo_law_7 33 rfl))
  obtain ⟨c11, iS11, hKn11⟩ := u_known (C := RX11) (T := TX11) (N := 17) (n := 17) hts tb_wsX110 (hts (.instantiable RX11 17) (mo_law_7 34 rfl))
  obtain ⟨c12, iS12, hKn12⟩ := u_known (C := RX12) (T := TX12) (N := 88) (n := 88) hts tb_wsX120 (hts (.instantiable RX12 88) (mo_law_7 35 rfl))
  obtain ⟨D, hKc⟩ : ∃ D : va_G, ∀ (k : Nat) (q : vw_C), vwCl[k]? = some q → u_Kn s q.1 q.2.1 q.2.2 (D.1 k) (D.2 k) := by
    refine ⟨(fun k => if k = 0 then c0 else if k = 1 then c1 else if k = 2 then c2 else if k = 3 then c3 else if k = 4 then c4 else if k = 5 then c5 else if k = 6 then c6 else if k = 7 then c7 else if k = 8 then c8 else if k = 9 then c9 else if k = 10 then c10 else if k = 11 then c11 else c12, fun k => if k = 0 then iS0 else if k = 1 then iS1 else if k = 2 then iS2 else if k = 3 then iS3 else if k = 4 then iS4 else if k = 5 then iS5 else if k = 6 then iS6 else if k = 7 then iS7 else if k = 8 then iS8 else if k = 9 then iS9 else if k = 10 then iS10 else if k = 11 then iS11 else iS12), ?_⟩
    intro k q hq
    match k, hq with
    | 0, hq => cases hq; exact hKn0
    | 1, hq => cases hq; exact hKn1
    | 2, hq => cases hq; exact hKn2
    | 3, hq => cases hq; exact hKn3
    | 4, hq => cases hq; exact hKn4
    | 5, hq => cases hq; exact hKn5
    | 6, hq => cases hq; exact hKn6
    | 7, hq => cases hq; exact hKn7
    | 8, hq => cases hq; exact hKn8
    | 9, hq => cases hq; exact hKn9
    | 10, hq => cases hq; exact hKn10
    | 11, hq => cases hq; exact hKn11
    | 12, hq => cases hq; exact hKn12
    | k + 13, hq => exact absurd hq (by simp [vwCl])
  have hS : va_S (fun q : Nat => s.heap.size ≤ q) s.heap s.heap [] := va_S.rf
  have hK : va_K D vwCl [] s := ⟨hKc, fun k q h => by simp at h⟩
  have hP : va_P D vwCl [] s.heap := fun k q h => by simp at h
  have hD : va_D (fun q : Nat => s.heap.size ≤ q) [] := ⟨fun i j p q h => by simp at h, fun k q h => by simp at h⟩
  have hl := lv_entry ([.ref b]) (n := 4) (Nat.le_of_ble_eq_true rfl)
  rw [lg_entry_eq]
  generalize (lg_sl ([.ref b]) ++ List.replicate (4 - (lg_sl ([.ref b])).length) Slot.unset).toArray = ls at hl ⊢
  have hl : lv_has ls 4 [(0, .ref b)] := hl
  have hiX11 : ∀ w ∈ wsX110, w ∈ lw_tbl := tb_wsX110
  have hiX12 : ∀ w ∈ wsX120, w ∈ lw_tbl := tb_wsX120
  refine va_new (ci := 11) (fs := [.null, .null, .null, .null, .null, .null, .null, .null, .null, .null, .null, .null, .null, .null, .null, .int 0, .int 0]) (C := RX11) (T := TX11) (N := 17) hx hb hts hiX11 tyX11 tyX11_ok hown (hts (.classLink RL 7 RX11) (mo_law_7 36 rfl)) (hts (.instantiable RX11 17) (mo_law_7 34 rfl)) (hts (.initialized RX11) (mo_law_0 3 rfl)) hK hP hD hS hA rfl (fun j hj => by rcases (show j = 0 ∨ j = 1 ∨ j = 2 ∨ j = 3 ∨ j = 4 ∨ j = 5 ∨ j = 6 ∨ j = 7 ∨ j = 8 ∨ j = 9 ∨ j = 10 ∨ j = 11 ∨ j = 12 ∨ j = 13 ∨ j = 14 ∨ j = 15 ∨ j = 16 by omega) with rfl | rfl | rfl | rfl | rfl | rfl | rfl | rfl | rfl | rfl | rfl | rfl | rfl | rfl | rfl | rfl | rfl <;> rfl) (Nat.le_of_ble_eq_true rfl) (Nat.le_of_ble_eq_true rfl) dL_law_0 (fun q_1 H hP hD hS => ?_)
  have hP : va_P D vwCl [(q_1, .inr (11, [.null, .null, .null, .null, .null, .null, .null, .null, .null, .null, .null, .null, .null, .null, .null, .int 0, .int 0]))] H := hP
  have hD : va_D (fun q : Nat => s.heap.size ≤ q) [(q_1, .inr (11, [.null, .null, .null, .null, .null, .null, .null, .null, .null, .null, .null, .null, .null, .null, .null, .int 0, .int 0]))] := hD
  refine W.widen (k := 1) (n := 17) (by decide) (Nat.le_of_ble_eq_true rfl) ?_
  refine lv_dup hx hb dL_law_3 rfl ?_
  refine kc_Iv (As := []) (rest := [.ref q_1]) (wr := []) ⟨hx, hb, hml, hown, hts⟩ (ct_X11_init l D q_1 _ ) (cwI 0 hts (goodIn_sub tb_X11_init gw_X11_init) rfl rfl rfl (hts (.initialized RX11) (mo_law_0 3 rfl)) (hts (.methodLink RL 9 yX11_init) (mo_law_7 37 rfl)) (hts (.instanceMethod yX11_init) (mo_law_7 38 rfl)) rfl hd_X11_init ⟨Nat.le_of_ble_eq_true rfl, Nat.le_of_ble_eq_true rfl⟩) hK hN hP hD hS hA [0] [] [] rfl rfl (by decide) (by decide) (by decide) rfl rfl hl.1 rfl (Nat.le_of_ble_eq_true rfl) dL_law_4 ⟨Nat.le_of_ble_eq_true rfl, Nat.le_of_ble_eq_true rfl⟩ (fun u_3 H locs w_4 hP hD hK1 hS => ?_)
  obtain ⟨o_5, o_6, o_7, o_8, o_9, o_10, o_11, o_12, o_13, o_14, o_15, o_16, o_17, o_18, o_19, o_20, o_21, o_22, o_23, o_24, o_25, o_26, o_27, o_28, o_29, o_30, o_31, o_32, o_33, o_34, o_35, o_36, o_37, o_38, o_39, o_40, o_41, o_42, o_43, o_44, o_45, o_46, o_47, o_48, o_49, o_50, o_51, o_52, o_53, o_54, o_55, o_56, o_57, o_58, o_59, o_60, o_61, o_62, o_63, o_64, o_65, o_66⟩ := u_3
  have hK : va_K D vwCl [(o_48, .int), (o_49, .int), (o_50, .int), (o_51, .int), (o_52, .int), (o_53, .int), (o_54, .int), (o_55, .int), (o_56, .int), (o_57, .int), (o_58, .long), (o_59, .int), (o_60, .int), (o_61, .int), (o_62, .int), (o_63, .int), (o_64, .int)] s := hK.app hK1
  have hP : va_P D vwCl [(q_1, .inr (11, [.ref o_5, .ref o_6, .ref o_7, .ref o_8, .ref o_9, .ref o_10, .ref o_11, .ref o_12, .ref o_13, .ref o_14, .ref o_15, .ref o_16, .ref o_17, .ref o_18, .ref o_19, .int 0, .int 0])), (o_5, .inr (3, [.ref o_20, .ref o_21, .int 1])), (o_20, .inl (o_48, 4, .inl (fun _ => 0))), (o_21, .inl (o_49, 18, .inl (fun _ => 0))), (o_6, .inr (3, [.ref o_22, .ref o_23, .int 1])), (o_22, .inl (o_50, 4, .inl (fun _ => 0))), (o_23, .inl (o_51, 18, .inl (fun _ => 0))), (o_8, .inr (9, [.ref o_24, .ref o_25, .ref o_26, .int 0])), (o_24, .inl (o_52, 960, .inl (fun _ => 0))), (o_25, .inl (o_53, 12, .inl (fun _ => 0))), (o_9, .inr (9, [.ref o_27, .ref o_28, .ref o_29, .int 0])), (o_27, .inl (o_54, 960, .inl (fun _ => 0))), (o_28, .inl (o_55, 12, .inl (fun _ => 0))), (o_10, .inr (0, [.ref o_30, .ref o_31, .ref o_32])), (o_30, .inl (o_56, 6, .inl o_65)), (o_31, .inl (o_57, 6, .inl (fun _ => 0))), (o_32, .inl (o_58, 360, .inr (.inl (fun _ => 0)))), (o_11, .inr (6, [.ref o_33, .ref o_34, .ref o_35, .ref o_36, .ref o_37, .ref o_38, .ref o_39, .ref o_40, .ref o_41, .ref o_42, .ref o_43, .int 0])), (o_40, .inl (o_59, 256, .inl o_66)), (o_12, .inl (o_60, 100, .inl (fun _ => 0))), (o_13, .inr (4, [.ref o_11, .ref o_12, .ref o_44, .int 0, .int 0, .int 0, .int 0, .int (-1)])), (o_44, .inl (o_61, 101, .inl (fun _ => 0))), (o_17, .inr (5, [.ref o_45, .ref o_46, .ref o_47, .int 1, .int 1])), (o_45, .inl (o_62, 6, .inl (fun _ => 0))), (o_46, .inl (o_63, 6, .inl (fun _ => 0))), (o_47, .inl (o_64, 6, .inl (fun _ => 0)))] H := hP
  have hD : va_D (fun q : Nat => s.heap.size ≤ q) [(q_1, .inr (11, [.ref o_5, .ref o_6, .ref o_7, .ref o_8, .ref o_9, .ref o_10, .ref o_11, .ref o_12, .ref o_13, .ref o_14, .ref o_15, .ref o_16, .ref o_17, .ref o_18, .ref o_19, .int 0, .int 0])), (o_5, .inr (3, [.ref o_20, .ref o_21, .int 1])), (o_20, .inl (o_48, 4, .inl (fun _ => 0))), (o_21, .inl (o_49, 18, .inl (fun _ => 0))), (o_6, .inr (3, [.ref o_22, .ref o_23, .int 1])), (o_22, .inl (o_50, 4, .inl (fun _ => 0))), (o_23, .inl (o_51, 18, .inl (fun _ => 0))), (o_8, .inr (9, [.ref o_24, .ref o_25, .ref o_26, .int 0])), (o_24, .inl (o_52, 960, .inl (fun _ => 0))), (o_25, .inl (o_53, 12, .inl (fun _ => 0))), (o_9, .inr (9, [.ref o_27, .ref o_28, .ref o_29, .int 0])), (o_27, .inl (o_54, 960, .inl (fun _ => 0))), (o_28, .inl (o_55, 12, .inl (fun _ => 0))), (o_10, .inr (0, [.ref o_30, .ref o_31, .ref o_32])), (o_30, .inl (o_56, 6, .inl o_65)), (o_31, .inl (o_57, 6, .inl (fun _ => 0))), (o_32, .inl (o_58, 360, .inr (.inl (fun _ => 0)))), (o_11, .inr (6, [.ref o_33, .ref o_34, .ref o_35, .ref o_36, .ref o_37, .ref o_38, .ref o_39, .ref o_40, .ref o_41, .ref o_42, .ref o_43, .int 0])), (o_40, .inl (o_59, 256, .inl o_66)), (o_12, .inl (o_60, 100, .inl (fun _ => 0))), (o_13, .inr (4, [.ref o_11, .ref o_12, .ref o_44, .int 0, .int 0, .int 0, .int 0, .int (-1)])), (o_44, .inl (o_61, 101, .inl (fun _ => 0))), (o_17, .inr (5, [.ref o_45, .ref o_46, .ref o_47, .int 1, .int 1])), (o_45, .inl (o_62, 6, .inl (fun _ => 0))), (o_46, .inl (o_63, 6, .inl (fun _ => 0))), (o_47, .inl (o_64, 6, .inl (fun _ => 0)))] := hD
  refine W.widen (k := 72) (n := 48603) (by decide) (Nat.le_of_ble_eq_true rfl) ?_
  have w_4 : ∀ k, k < 6 → o_65 k = -1 := w_4
  refine lv_astore_n (lv' := [(1, .ref q_1), (0, .ref b)]) hx hb dL_law_7 rfl hl (by decide) rfl (fun ls hl => ?_)
  refine va_new (ci := 12) (fs := [.int 0, .null, .null, .int 0, .null, .null, .null, .int 0, .int 0, .int 0, .null, .null, .int 0, .null, .null, .int 0, .null, .null, .null, .null, .int 0, .null, .null, .null, .null, .null, .null, .null, .int 0, .null, .int 0, .null, .int 0, .int 0, .int 0, .int 0, .int 0, .int 0, .int 0, .null, .null, .null, .int 0, .int 0, .null, .null, .null, .null, .null, .null, .null, .null, .null, .null, .null, .null, .null, .null, .null, .null, .null, .int 0, .null, .null, .null, .null, .null, .int 0, .null, .int 0, .null, .int 0, .int 0, .int 0, .null, .null, .null, .null, .null, .null, .null, .null, .int 0, .null, .null, .null, .null, .null]) (C := RX12) (T := TX12) (N := 88) hx hb hts hiX12 tyX12 tyX12_ok hown (hts (.classLink RL 10 RX12) (mo_law_7 39 rfl)) (hts (.instantiable RX12 88) (mo_law_7 35 rfl)) (hts (.initialized RX12) (mo_law_0 7 rfl)) hK hP hD hS hA rfl (fun j hj => by rcases (show j = 0 ∨ j = 1 ∨ j = 2 ∨ j = 3 ∨ j = 4 ∨ j = 5 ∨ j = 6 ∨ j = 7 ∨ j = 8 ∨ j = 9 ∨ j = 10 ∨ j = 11 ∨ j = 12 ∨ j = 13 ∨ j = 14 ∨ j = 15 ∨ j = 16 ∨ j = 17 ∨ j = 18 ∨ j = 19 ∨ j = 20 ∨ j = 21 ∨ j = 22 ∨ j = 23 ∨ j = 24 ∨ j = 25 ∨ j = 26 ∨ j = 27 ∨ j = 28 ∨ j = 29 ∨ j = 30 ∨ j = 31 ∨ j = 32 ∨ j = 33 ∨ j = 34 ∨ j = 35 ∨ j = 36 ∨ j = 37 ∨ j = 38 ∨ j = 39 ∨ j = 40 ∨ j = 41 ∨ j = 42 ∨ j = 43 ∨ j = 44 ∨ j = 45 ∨ j = 46 ∨ j = 47 ∨ j = 48 ∨ j = 49 ∨ j = 50 ∨ j = 51 ∨ j = 52 ∨ j = 53 ∨ j = 54 ∨ j = 55 ∨ j = 56 ∨ j = 57 ∨ j = 58 ∨ j = 59 ∨ j = 60 ∨ j = 61 ∨ j = 62 ∨ j = 63 ∨ j = 64 ∨ j = 65 ∨ j = 66 ∨ j = 67 ∨ j = 68 ∨ j = 69 ∨ j = 70 ∨ j = 71 ∨ j = 72 ∨ j = 73 ∨ j = 74 ∨ j = 75 ∨ j = 76 ∨ j = 77 ∨ j = 78 ∨ j = 79 ∨ j = 80 ∨ j = 81 ∨ j = 82 ∨ j = 83 ∨ j = 84 ∨ j = 85 ∨ j = 86 ∨ j = 87 by omega) with rfl | rfl | rfl | rfl | rfl | rfl | rfl | rfl | rfl | rfl | rfl | rfl | rfl | rfl | rfl | rfl | rfl | rfl | rfl | rfl | rfl | rfl | rfl | rfl | rfl | rfl | rfl | rfl | rfl | rfl | rfl | rfl | rfl | rfl | rfl | rfl | rfl | rfl | rfl | rfl | rfl | rfl | rfl | rfl | rfl | rfl | rfl | rfl | rfl | rfl | rfl | rfl | rfl | rfl | rfl | rfl | rfl | rfl | rfl | rfl | rfl | rfl | rfl | rfl | rfl | rfl | rfl | rfl | rfl | rfl | rfl | rfl | rfl | rfl | rfl | rfl | rfl | rfl | rfl | rfl | rfl | rfl | rfl | rfl | rfl | rfl | rfl | rfl <;> rfl) (Nat.le_of_ble_eq_true rfl) (Nat.le_of_ble_eq_true rfl) dL_law_8 (fun q_67 H hP hD hS => ?_)
  have hP : va_P D vwCl [(q_1, .inr (11, [.ref o_5, .ref o_6, .ref o_7, .ref o_8, .ref o_9, .ref o_10, .ref o_11, .ref o_12, .ref o_13, .ref o_14, .ref o_15, .ref o_16, .ref o_17, .ref o_18, .ref o_19, .int 0, .int 0])), (o_5, .inr (3, [.ref o_20, .ref o_21, .int 1])), (o_20, .inl (o_48, 4, .inl (fun _ => 0))), (o_21, .inl (o_49, 18, .inl (fun _ => 0))), (o_6, .inr (3, [.ref o_22, .ref o_23, .int 1])), (o_22, .inl (o_50, 4, .inl (fun _ => 0))), (o_23, .inl (o_51, 18, .inl (fun _ => 0))), (o_8, .inr (9, [.ref o_24, .ref o_25, .ref o_26, .int 0])), (o_24, .inl (o_52, 960, .inl (fun _ => 0))), (o_25, .inl (o_53, 12, .inl (fun _ => 0))), (o_9, .inr (9, [.ref o_27, .ref o_28, .ref o_29, .int 0])), (o_27, .inl (o_54, 960, .inl (fun _ => 0))), (o_28, .inl (o_55, 12, .inl (fun _ => 0))), (o_10, .inr (0, [.ref o_30, .ref o_31, .ref o_32])), (o_30, .inl (o_56, 6, .inl o_65)), (o_31, .inl (o_57, 6, .inl (fun _ => 0))), (o_32, .inl (o_58, 360, .inr (.inl (fun _ => 0)))), (o_11, .inr (6, [.ref o_33, .ref o_34, .ref o_35, .ref o_36, .ref o_37, .ref o_38, .ref o_39, .ref o_40, .ref o_41, .ref o_42, .ref o_43, .int 0])), (o_40, .inl (o_59, 256, .inl o_66)), (o_12, .inl (o_60, 100, .inl (fun _ => 0))), (o_13, .inr (4, [.ref o_11, .ref o_12, .ref o_44, .int 0, .int 0, .int 0, .int 0, .int (-1)])), (o_44, .inl (o_61, 101, .inl (fun _ => 0))), (o_17, .inr (5, [.ref o_45, .ref o_46, .ref o_47, .int 1, .int 1])), (o_45, .inl (o_62, 6, .inl (fun _ => 0))), (o_46, .inl (o_63, 6, .inl (fun _ => 0))), (o_47, .inl (o_64, 6, .inl (fun _ => 0))), (q_67, .inr (12, [.int 0, .null, .null, .int 0, .null, .null, .null, .int 0, .int 0, .int 0, .null, .null, .int 0, .null, .null, .int 0, .null, .null, .null, .null, .int 0, .null, .null, .null, .null, .null, .null, .null, .int 0, .null, .int 0, .null, .int 0, .int 0, .int 0, .int 0, .int 0, .int 0, .int 0, .null, .null, .null, .int 0, .int 0, .null, .null, .null, .null, .null, .null, .null, .null, .null, .null, .null, .null, .null, .null, .null, .null, .null, .int 0, .null, .null, .null, .null, .null, .int 0, .null, .int 0, .null, .int 0, .int 0, .int 0, .null, .null, .null, .null, .null, .null, .null, .null, .int 0, .null, .null, .null, .null, .null]))] H := hP
  have hD : va_D (fun q : Nat => s.heap.size ≤ q) [(q_1, .inr (11, [.ref o_5, .ref o_6, .ref o_7, .ref o_8, .ref o_9, .ref o_10, .ref o_11, .ref o_12, .ref o_13, .ref o_14, .ref o_15, .ref o_16, .ref o_17, .ref o_18, .ref o_19, .int 0, .int 0])), (o_5, .inr (3, [.ref o_20, .ref o_21, .int 1])), (o_20, .inl (o_48, 4, .inl (fun _ => 0))), (o_21, .inl (o_49, 18, .inl (fun _ => 0))), (o_6, .inr (3, [.ref o_22, .ref o_23, .int 1])), (o_22, .inl (o_50, 4, .inl (fun _ => 0))), (o_23, .inl (o_51, 18, .inl (fun _ => 0))), (o_8, .inr (9, [.ref o_24, .ref o_25, .ref o_26, .int 0])), (o_24, .inl (o_52, 960, .inl (fun _ => 0))), (o_25, .inl (o_53, 12, .inl (fun _ => 0))), (o_9, .inr (9, [.ref o_27, .ref o_28, .ref o_29, .int 0])), (o_27, .inl (o_54, 960, .inl (fun _ => 0))), (o_28, .inl (o_55, 12, .inl (fun _ => 0))), (o_10, .inr (0, [.ref o_30, .ref o_31, .ref o_32])), (o_30, .inl (o_56, 6, .inl o_65)), (o_31, .inl (o_57, 6, .inl (fun _ => 0))), (o_32, .inl (o_58, 360, .inr (.inl (fun _ => 0)))), (o_11, .inr (6, [.ref o_33, .ref o_34, .ref o_35, .ref o_36, .ref o_37, .ref o_38, .ref o_39, .ref o_40, .ref o_41, .ref o_42, .ref o_43, .int 0])), (o_40, .inl (o_59, 256, .inl o_66)), (o_12, .inl (o_60, 100, .inl (fun _ => 0))), (o_13, .inr (4, [.ref o_11, .ref o_12, .ref o_44, .int 0, .int 0, .int 0, .int 0, .int (-1)])), (o_44, .inl (o_61, 101, .inl (fun _ => 0))), (o_17, .inr (5, [.ref o_45, .ref o_46, .ref o_47, .int 1, .int 1])), (o_45, .inl (o_62, 6, .inl (fun _ => 0))), (o_46, .inl (o_63, 6, .inl (fun _ => 0))), (o_47, .inl (o_64, 6, .inl (fun _ => 0))), (q_67, .inr (12, [.int 0, .null, .null, .int 0, .null, .null, .null, .int 0, .int 0, .int 0, .null, .null, .int 0, .null, .null, .int 0, .null, .null, .null, .null, .int 0, .null, .null, .null, .null, .null, .null, .null, .int 0, .null, .int 0, .null, .int 0, .int 0, .int 0, .int 0, .int 0, .int 0, .int 0, .null, .null, .null, .int 0, .int 0, .null, .null, .null, .null, .null, .null, .null, .null, .null, .null, .null, .null, .null, .null, .null, .null, .null, .int 0, .null, .null, .null, .null, .null, .int 0, .null, .int 0, .null, .int 0, .int 0, .int 0, .null, .null, .null, .null, .null, .null, .null, .null, .int 0, .null, .null, .null, .null, .null]))] := hD
  refine W.widen (k := 73) (n := 48691) (by decide) (Nat.le_of_ble_eq_true rfl) ?_
  refine lv_dup hx hb dL_law_11 rfl ?_
  refine kc_Iv (As := []) (rest := [.ref q_67]) (wr := [(q_1, .inr (11, [.ref o_5, .ref o_6, .ref o_7, .ref o_8, .ref o_9, .ref o_10, .ref o_11, .ref o_12, .ref o_13, .ref o_14, .ref o_15, .ref o_16, .ref o_17, .ref o_18, .ref o_19, .int 0, .int 0])), (o_5, .inr (3, [.ref o_20, .ref o_21, .int 1])), (o_20, .inl (o_48, 4, .inl (fun _ => 0))), (o_21, .inl (o_49, 18, .inl (fun _ => 0))), (o_6, .inr (3, [.ref o_22, .ref o_23, .int 1])), (o_22, .inl (o_50, 4, .inl (fun _ => 0))), (o_23, .inl (o_51, 18, .inl (fun _ => 0))), (o_8, .inr (9, [.ref o_24, .ref o_25, .ref o_26, .int 0])), (o_24, .inl (o_52, 960, .inl (fun _ => 0))), (o_25, .inl (o_53, 12, .inl (fun _ => 0))), (o_9, .inr (9, [.ref o_27, .ref o_28, .ref o_29, .int 0])), (o_27, .inl (o_54, 960, .inl (fun _ => 0))), (o_28, .inl (o_55, 12, .inl (fun _ => 0))), (o_10, .inr (0, [.ref o_30, .ref o_31, .ref o_32])), (o_30, .inl (o_56, 6, .inl o_65)), (o_31, .inl (o_57, 6, .inl (fun _ => 0))), (o_32, .inl (o_58, 360, .inr (.inl (fun _ => 0)))), (o_11, .inr (6, [.ref o_33, .ref o_34, .ref o_35, .ref o_36, .ref o_37, .ref o_38, .ref o_39, .ref o_40, .ref o_41, .ref o_42, .ref o_43, .int 0])), (o_40, .inl (o_59, 256, .inl o_66)), (o_12, .inl (o_60, 100, .inl (fun _ => 0))), (o_13, .inr (4, [.ref o_11, .ref o_12, .ref o_44, .int 0, .int 0, .int 0, .int 0, .int (-1)])), (o_44, .inl (o_61, 101, .inl (fun _ => 0))), (o_17, .inr (5, [.ref o_45, .ref o_46, .ref o_47, .int 1, .int 1])), (o_45, .inl (o_62, 6, .inl (fun _ => 0))), (o_46, .inl (o_63, 6, .inl (fun _ => 0))), (o_47, .inl (o_64, 6, .inl (fun _ => 0)))]) ⟨hx, hb, hml, hown, hts⟩ (ct_X12_init l D q_67 _ ) (cwI 0 hts (goodIn_sub tb_X12_init gw_X12_init) rfl rfl rfl (hts (.initialized RX12) (mo_law_0 7 rfl)) (hts (.methodLink RL 12 yX12_init) (mo_law_8 0 rfl)) (hts (.instanceMethod yX12_init) (mo_law_8 1 rfl)) rfl hd_X12_init ⟨Nat.le_of_ble_eq_true rfl, Nat.le_of_ble_eq_true rfl⟩) hK hN hP hD hS hA [26] [0, 1, 2, 3, 4, 5, 6, 7, 8, 9, 10, 11, 12, 13, 14, 15, 16, 17, 18, 19, 20, 21, 22, 23, 24, 25] [] rfl rfl (by decide) (by decide) (by decide) rfl rfl hl.1 rfl (Nat.le_of_ble_eq_true rfl) dL_law_12 ⟨Nat.le_of_ble_eq_true rfl, Nat.le_of_ble_eq_true rfl⟩ (fun u_69 H locs w_70 hP hD hK1 hS => ?_)
  obtain ⟨o_71, o_72, o_73, o_74, o_75, o_76, o_77, o_78, o_79, o_80, o_81, o_82, o_83, o_84, o_85, o_86, o_87, o_88, o_89, o_90, o_91, o_92, o_93, o_94, o_95, o_96, o_97, o_98, o_99, o_100, o_101, o_102, o_103, o_104, o_105, o_106, o_107, o_108, o_109, o_110, o_111, o_112, o_113, o_114, o_115, o_116, o_117, o_118, o_119, o_120, o_121, o_122, o_123, o_124, o_125, o_126, o_127, o_128, o_129, o_130, o_131, o_132, o_133, o_134, o_135, o_136, o_137, o_138, o_139, o_140, o_141, o_142, o_143, o_144, o_145, o_146, o_147, o_148⟩ := u_69
  have hK : va_K D vwCl [(o_48, .int), (o_49, .int), (o_50, .int), (o_51, .int), (o_52, .int), (o_53, .int), (o_54, .int), (o_55, .int), (o_56, .int), (o_57, .int), (o_58, .long), (o_59, .int), (o_60, .int), (o_61, .int), (o_62, .int), (o_63, .int), (o_64, .int), (o_133, .int), (o_134, .int), (o_135, .int), (o_136, .int), (o_137, .int), (o_138, .int), (o_139, .int), (o_140, .int), (o_141, .int), (o_142, .int), (o_143, .int), (o_144, .int), (o_145, .int), (o_146, .int), (o_147, .int), (o_148, .long)] s := hK.app hK1
  have hP : va_P D vwCl [(q_1, .inr (11, [.ref o_5, .ref o_6, .ref o_7, .ref o_8, .ref o_9, .ref o_10, .ref o_11, .ref o_12, .ref o_13, .ref o_14, .ref o_15, .ref o_16, .ref o_17, .ref o_18, .ref o_19, .int 0, .int 0])), (o_5, .inr (3, [.ref o_20, .ref o_21, .int 1])), (o_20, .inl (o_48, 4, .inl (fun _ => 0))), (o_21, .inl (o_49, 18, .inl (fun _ => 0))), (o_6, .inr (3, [.ref o_22, .ref o_23, .int 1])), (o_22, .inl (o_50, 4, .inl (fun _ => 0))), (o_23, .inl (o_51, 18, .inl (fun _ => 0))), (o_8, .inr (9, [.ref o_24, .ref o_25, .ref o_26, .int 0])), (o_24, .inl (o_52, 960, .inl (fun _ => 0))), (o_25, .inl (o_53, 12, .inl (fun _ => 0))), (o_9, .inr (9, [.ref o_27, .ref o_28, .ref o_29, .int 0])), (o_27, .inl (o_54, 960, .inl (fun _ => 0))), (o_28, .inl (o_55, 12, .inl (fun _ => 0))), (o_10, .inr (0, [.ref o_30, .ref o_31, .ref o_32])), (o_30, .inl (o_56, 6, .inl o_65)), (o_31, .inl (o_57, 6, .inl (fun _ => 0))), (o_32, .inl (o_58, 360, .inr (.inl (fun _ => 0)))), (o_11, .inr (6, [.ref o_33, .ref o_34, .ref o_35, .ref o_36, .ref o_37, .ref o_38, .ref o_39, .ref o_40, .ref o_41, .ref o_42, .ref o_43, .int 0])), (o_40, .inl (o_59, 256, .inl o_66)), (o_12, .inl (o_60, 100, .inl (fun _ => 0))), (o_13, .inr (4, [.ref o_11, .ref o_12, .ref o_44, .int 0, .int 0, .int 0, .int 0, .int (-1)])), (o_44, .inl (o_61, 101, .inl (fun _ => 0))), (o_17, .inr (5, [.ref o_45, .ref o_46, .ref o_47, .int 1, .int 1])), (o_45, .inl (o_62, 6, .inl (fun _ => 0))), (o_46, .inl (o_63, 6, .inl (fun _ => 0))), (o_47, .inl (o_64, 6, .inl (fun _ => 0))), (q_67, .inr (12, [.int 1, .ref o_71, .ref o_72, .int 0, .ref o_73, .ref o_74, .ref o_75, .int 0, .int 0, .int 0, .ref o_76, .ref o_77, .int 0, .ref o_78, .ref o_79, .int 0, .ref o_80, .ref o_81, .ref o_82, .ref o_83, .int 0, .ref o_84, .ref o_85, .ref o_86, .ref o_87, .ref o_88, .ref o_89, .ref o_90, .int 0, .ref o_91, .int 0, .ref o_92, .int 0, .int 0, .int 0, .int 0, .int 0, .int 0, .int 0, .ref o_93, .ref o_94, .ref o_95, .int 0, .int 0, .ref o_96, .ref o_97, .ref o_98, .ref o_99, .ref o_100, .ref o_101, .ref o_102, .ref o_103, .ref o_104, .ref o_105, .ref o_106, .ref o_107, .ref o_108, .ref o_109, .ref o_110, .ref o_111, .ref o_112, .int 0, .ref o_113, .ref o_114, .ref o_115, .ref o_116, .ref o_117, .int 0, .ref o_118, .int 0, .ref o_119, .int 0, .int 0, .int 0, .ref o_120, .ref o_121, .ref o_122, .ref o_123, .ref o_124, .ref o_125, .ref o_126, .ref o_127, .int 0, .ref o_128, .ref o_129, .ref o_130, .ref o_131, .ref o_132])), (o_71, .inl (o_133, 6, .inl (fun _ => 0))), (o_72, .inl (o_134, 18, .inl (fun _ => 0))), (o_73, .inl (o_135, 12, .inl (fun _ => 0))), (o_74, .inl (o_136, 960, .inl (fun _ => 0))), (o_75, .inl (o_137, 100, .inl (fun _ => 0))), (o_76, .inl (o_138, 6, .inl (fun _ => 0))), (o_77, .inl (o_139, 18, .inl (fun _ => 0))), (o_78, .inl (o_140, 12, .inl (fun _ => 0))), (o_79, .inl (o_141, 960, .inl (fun _ => 0))), (o_80, .inl (o_142, 6, .inl (fun _ => 0))), (o_81, .inl (o_143, 18, .inl (fun _ => 0))), (o_82, .inl (o_144, 6, .inl (fun _ => 0))), (o_83, .inl (o_145, 24, .inl (fun _ => 0))), (o_129, .inl (o_146, 6, .inl (fun _ => 0))), (o_130, .inl (o_147, 6, .inl (fun _ => 0))), (o_131, .inl (o_148, 360, .inr (.inl (fun _ => 0))))] H := hP
  have hD : va_D (fun q : Nat => s.heap.size ≤ q) [(q_1, .inr (11, [.ref o_5, .ref o_6, .ref o_7, .ref o_8, .ref o_9, .ref o_10, .ref o_11, .ref o_12, .ref o_13, .ref o_14, .ref o_15, .ref o_16, .ref o_17, .ref o_18, .ref o_19, .int 0, .int 0])), (o_5, .inr (3, [.ref o_20, .ref o_21, .int 1])), (o_20, .inl (o_48, 4, .inl (fun _ => 0))), (o_21, .inl (o_49, 18, .inl (fun _ => 0))), (o_6, .inr (3, [.ref o_22, .ref o_23, .int 1])), (o_22, .inl (o_50, 4, .inl (fun _ => 0))), (o_23, .inl (o_51, 18, .inl (fun _ => 0))), (o_8, .inr (9, [.ref o_24, .ref o_25, .ref o_26, .int 0])), (o_24, .inl (o_52, 960, .inl (fun _ => 0))), (o_25, .inl (o_53, 12, .inl (fun _ => 0))), (o_9, .inr (9, [.ref o_27, .ref o_28, .ref o_29, .int 0])), (o_27, .inl (o_54, 960, .inl (fun _ => 0))), (o_28, .inl (o_55, 12, .inl (fun _ => 0))), (o_10, .inr (0, [.ref o_30, .ref o_31, .ref o_32])), (o_30, .inl (o_56, 6, .inl o_65)), (o_31, .inl (o_57, 6, .inl (fun _ => 0))), (o_32, .inl (o_58, 360, .inr (.inl (fun _ => 0)))), (o_11, .inr (6, [.ref o_33, .ref o_34, .ref o_35, .ref o_36, .ref o_37, .ref o_38, .ref o_39, .ref o_40, .ref o_41, .ref o_42, .ref o_43, .int 0])), (o_40, .inl (o_59, 256, .inl o_66)), (o_12, .inl (o_60, 100, .inl (fun _ => 0))), (o_13, .inr (4, [.ref o_11, .ref o_12, .ref o_44, .int 0, .int 0, .int 0, .int 0, .int (-1)])), (o_44, .inl (o_61, 101, .inl (fun _ => 0))), (o_17, .inr (5, [.ref o_45, .ref o_46, .ref o_47, .int 1, .int 1])), (o_45, .inl (o_62, 6, .inl (fun _ => 0))), (o_46, .inl (o_63, 6, .inl (fun _ => 0))), (o_47, .inl (o_64, 6, .inl (fun _ => 0))), (q_67, .inr (12, [.int 1, .ref o_71, .ref o_72, .int 0, .ref o_73, .ref o_74, .ref o_75, .int 0, .int 0, .int 0, .ref o_76, .ref o_77, .int 0, .ref o_78, .ref o_79, .int 0, .ref o_80, .ref o_81, .ref o_82, .ref o_83, .int 0, .ref o_84, .ref o_85, .ref o_86, .ref o_87, .ref o_88, .ref o_89, .ref o_90, .int 0, .ref o_91, .int 0, .ref o_92, .int 0, .int 0, .int 0, .int 0, .int 0, .int 0, .int 0, .ref o_93, .ref o_94, .ref o_95, .int 0, .int 0, .ref o_96, .ref o_97, .ref o_98, .ref o_99, .ref o_100, .ref o_101, .ref o_102, .ref o_103, .ref o_104, .ref o_105, .ref o_106, .ref o_107, .ref o_108, .ref o_109, .ref o_110, .ref o_111, .ref o_112, .int 0, .ref o_113, .ref o_114, .ref o_115, .ref o_116, .ref o_117, .int 0, .ref o_118, .int 0, .ref o_119, .int 0, .int 0, .int 0, .ref o_120, .ref o_121, .ref o_122, .ref o_123, .ref o_124, .ref o_125, .ref o_126, .ref o_127, .int 0, .ref o_128, .ref o_129, .ref o_130, .ref o_131, .ref o_132])), (o_71, .inl (o_133, 6, .inl (fun _ => 0))), (o_72, .inl (o_134, 18, .inl (fun _ => 0))), (o_73, .inl (o_135, 12, .inl (fun _ => 0))), (o_74, .inl (o_136, 960, .inl (fun _ => 0))), (o_75, .inl (o_137, 100, .inl (fun _ => 0))), (o_76, .inl (o_138, 6, .inl (fun _ => 0))), (o_77, .inl (o_139, 18, .inl (fun _ => 0))), (o_78, .inl (o_140, 12, .inl (fun _ => 0))), (o_79, .inl (o_141, 960, .inl (fun _ => 0))), (o_80, .inl (o_142, 6, .inl (fun _ => 0))), (o_81, .inl (o_143, 18, .inl (fun _ => 0))), (o_82, .inl (o_144, 6, .inl (fun _ => 0))), (o_83, .inl (o_145, 24, .inl (fun _ => 0))), (o_129, .inl (o_146, 6, .inl (fun _ => 0))), (o_130, .inl (o_147, 6, .inl (fun _ => 0))), (o_131, .inl (o_148, 360, .inr (.inl (fun _ => 0))))] := hD
  refine W.widen (k := 145) (n := 847604) (by decide) (Nat.le_of_ble_eq_true rfl) ?_
  refine lv_astore_n (lv' := [(2, .ref q_67), (1, .ref q_1), (0, .ref b)]) hx hb dL_law_15 rfl hl (by decide) rfl (fun ls hl => ?_)
  refine lv_iconst (v := 0) hx hb dL_law_16 (by decide) ?_
  refine lv_istore_n (lv' := [(3, .int 0), (2, .ref q_67), (1, .ref q_1), (0, .ref b)]) hx hb dL_law_17 rfl hl (by decide) rfl (fun ls hl => ?_)
  rcases (show L = 0 ∨ L = 1 ∨ L = 2 ∨ L = 3 ∨ L = 4 ∨ L = 5 ∨ L = 6 by omega) with rfl | rfl | rfl | rfl | rfl | rfl | rfl
  · have hl := lv_sub (l' := [(0, .ref b), (1, .ref q_1), (2, .ref q_67), (3, .int 0)]) hl [3, 2, 1, 0] rfl
    refine lv_iload_n hx hb dL_law_18 rfl (lv_at hl 3 rfl) ?_
    refine lv_aload_n hx hb dL_law_19 rfl (lv_at hl 0 rfl) ?_
    refine va_slen hx hb hX hbl hbA hS dL_law_20 ?_
    refine lv_bipush (v := 6) hx hb dL_law_21 (by decide) ?_
    refine lv_isub hx hb dL_law_23 ?_
    refine lv_topi (fun x1 ex1 => ?_)
    obtain rfl : x1 = (-6) := ex1.trans (by decide)
    refine lv_icmp_gt (tgt := 1928) hx hb dL_law_24 (by decide) (fun _ => ?_) (fun q => absurd (by decide) q)
    refine lv_iconst (v := 1) hx hb dL_law_1928 (by decide) ?_
    refine va_forget (fun q hq => hS.2.2 q hq) ?_
    refine W.widen (k := 600000) (n := 7302250) (Nat.le_of_ble_eq_true rfl) (Nat.le_of_ble_eq_true rfl) ?_
    exact lw_ret hx hb hr hlocks dL_law_1929
  · have hl := lv_sub (l' := [(0, .ref b), (1, .ref q_1), (2, .ref q_67), (3, .int 0)]) hl [3, 2, 1, 0] rfl
    refine lv_iload_n hx hb dL_law_18 rfl (lv_at hl 3 rfl) ?_
    refine lv_aload_n hx hb dL_law_19 rfl (lv_at hl 0 rfl) ?_
    refine va_slen hx hb hX hbl hbA hS dL_law_20 ?_
    refine lv_bipush (v := 6) hx hb dL_law_21 (by decide) ?_
    refine lv_isub hx hb dL_law_23 ?_
    refine lv_topi (fun x1 ex1 => ?_)
    obtain rfl : x1 = (-5) := ex1.trans (by decide)
    refine lv_icmp_gt (tgt := 1928) hx hb dL_law_24 (by decide) (fun _ => ?_) (fun q => absurd (by decide) q)
    refine lv_iconst (v := 1) hx hb dL_law_1928 (by decide) ?_
    refine va_forget (fun q hq => hS.2.2 q hq) ?_
    refine W.widen (k := 600000) (n := 7302250) (Nat.le_of_ble_eq_true rfl) (Nat.le_of_ble_eq_true rfl) ?_
    exact lw_ret hx hb hr hlocks dL_law_1929
  · have hl := lv_sub (l' := [(0, .ref b), (1, .ref q_1), (2, .ref q_67), (3, .int 0)]) hl [3, 2, 1, 0] rfl
    refine lv_iload_n hx hb dL_law_18 rfl (lv_at hl 3 rfl) ?_
    refine lv_aload_n hx hb dL_law_19 rfl (lv_at hl 0 rfl) ?_
    refine va_slen hx hb hX hbl hbA hS dL_law_20 ?_
    refine lv_bipush (v := 6) hx hb dL_law_21 (by decide) ?_
    refine lv_isub hx hb dL_law_23 ?_
    refine lv_topi (fun x1 ex1 => ?_)
    obtain rfl : x1 = (-4) := ex1.trans (by decide)
    refine lv_icmp_gt (tgt := 1928) hx hb dL_law_24 (by decide) (fun _ => ?_) (fun q => absurd (by decide) q)
    refine lv_iconst (v := 1) hx hb dL_law_1928 (by decide) ?_
    refine va_forget (fun q hq => hS.2.2 q hq) ?_
    refine W.widen (k := 600000) (n := 7302250) (Nat.le_of_ble_eq_true rfl) (Nat.le_of_ble_eq_true rfl) ?_
    exact lw_ret hx hb hr hlocks dL_law_1929
  · have hl := lv_sub (l' := [(0, .ref b), (1, .ref q_1), (2, .ref q_67), (3, .int 0)]) hl [3, 2, 1, 0] rfl
    refine lv_iload_n hx hb dL_law_18 rfl (lv_at hl 3 rfl) ?_
    refine lv_aload_n hx hb dL_law_19 rfl (lv_at hl 0 rfl) ?_
    refine va_slen hx hb hX hbl hbA hS dL_law_20 ?_
    refine lv_bipush (v := 6) hx hb dL_law_21 (by decide) ?_
    refine lv_isub hx hb dL_law_23 ?_
    refine lv_topi (fun x1 ex1 => ?_)
    obtain rfl : x1 = (-3) := ex1.trans (by decide)
    refine lv_icmp_gt (tgt := 1928) hx hb dL_law_24 (by decide) (fun _ => ?_) (fun q => absurd (by decide) q)
    refine lv_iconst (v := 1) hx hb dL_law_1928 (by decide) ?_
    refine va_forget (fun q hq => hS.2.2 q hq) ?_
    refine W.widen (k := 600000) (n := 7302250) (Nat.le_of_ble_eq_true rfl) (Nat.le_of_ble_eq_true rfl) ?_
    exact lw_ret hx hb hr hlocks dL_law_1929
  · have hl := lv_sub (l' := [(0, .ref b), (1, .ref q_1), (2, .ref q_67), (3, .int 0)]) hl [3, 2, 1, 0] rfl
    refine lv_iload_n hx hb dL_law_18 rfl (lv_at hl 3 rfl) ?_
    refine lv_aload_n hx hb dL_law_19 rfl (lv_at hl 0 rfl) ?_
    refine va_slen hx hb hX hbl hbA hS dL_law_20 ?_
    refine lv_bipush (v := 6) hx hb dL_law_21 (by decide) ?_
    refine lv_isub hx hb dL_law_23 ?_
    refine lv_topi (fun x1 ex1 => ?_)
    obtain rfl : x1 = (-2) := ex1.trans (by decide)
    refine lv_icmp_gt (tgt := 1928) hx hb dL_law_24 (by decide) (fun _ => ?_) (fun q => absurd (by decide) q)
    refine lv_iconst (v := 1) hx hb dL_law_1928 (by decide) ?_
    refine va_forget (fun q hq => hS.2.2 q hq) ?_
    refine W.widen (k := 600000) (n := 7302250) (Nat.le_of_ble_eq_true rfl) (Nat.le_of_ble_eq_true rfl) ?_
    exact lw_ret hx hb hr hlocks dL_law_1929
  · have hl := lv_sub (l' := [(0, .ref b), (1, .ref q_1), (2, .ref q_67), (3, .int 0)]) hl [3, 2, 1, 0] rfl
    refine lv_iload_n hx hb dL_law_18 rfl (lv_at hl 3 rfl) ?_
    refine lv_aload_n hx hb dL_law_19 rfl (lv_at hl 0 rfl) ?_
    refine va_slen hx hb hX hbl hbA hS dL_law_20 ?_
    refine lv_bipush (v := 6) hx hb dL_law_21 (by decide) ?_
    refine lv_isub hx hb dL_law_23 ?_
    refine lv_topi (fun x1 ex1 => ?_)
    obtain rfl : x1 = (-1) := ex1.trans (by decide)
    refine lv_icmp_gt (tgt := 1928) hx hb dL_law_24 (by decide) (fun _ => ?_) (fun q => absurd (by decide) q)
    refine lv_iconst (v := 1) hx hb dL_law_1928 (by decide) ?_
    refine va_forget (fun q hq => hS.2.2 q hq) ?_
    refine W.widen (k := 600000) (n := 7302250) (Nat.le_of_ble_eq_true rfl) (Nat.le_of_ble_eq_true rfl) ?_
    exact lw_ret hx hb hr hlocks dL_law_1929
  · have hl := lv_sub (l' := [(0, .ref b), (1, .ref q_1), (2, .ref q_67), (3, .int 0)]) hl [3, 2, 1, 0] rfl
    refine lv_iload_n hx hb dL_law_18 rfl (lv_at hl 3 rfl) ?_
    refine lv_aload_n hx hb dL_law_19 rfl (lv_at hl 0 rfl) ?_
    refine va_slen hx hb hX hbl hbA hS dL_law_20 ?_
    refine lv_bipush (v := 6) hx hb dL_law_21 (by decide) ?_
    refine lv_isub hx hb dL_law_23 ?_
    refine lv_topi (fun x1 ex1 => ?_)
    obtain rfl : x1 = 0 := ex1.trans (by decide)
    refine lv_icmp_gt (tgt := 1928) hx hb dL_law_24 (by decide) (fun q => absurd q (by decide)) (fun _ => ?_)
    refine lv_aload_n hx hb dL_law_27 rfl (lv_at hl 0 rfl) ?_
    refine lv_iload_n hx hb dL_law_28 rfl (lv_at hl 3 rfl) ?_
    refine va_sld hx hb hX hbl hbA hS (vp_in_nI (n := 0) (N := 6) (by decide) (by decide)) dL_law_29 ?_
    refine lv_bipush (v := 63) hx hb dL_law_30 (by decide) ?_
    refine lv_iand hx hb dL_law_32 ?_
    refine lv_topi (fun z ez => ?_)
    obtain ⟨j, hj, ej⟩ := pk_andE (xs (0 : Int32).toNatClampNeg) (m := 63) 6 (by decide)
    obtain rfl : z = nI j := ez.trans ej
    clear ez ej
    have hj : j < 64 := hj
    by_cases h50 : 50 ≤ j
    · refine lv_tableOut (tgt := 1922) hx hb dL_law_33 (Or.inr (by rw [nI_toInt (by omega)]; omega)) (by decide) ?_
      exact law_end hx hb hr hlocks hX hbl hS hl
    · match j, h50 with
      | 0, _ => exact lv_tableIn (off := 215) (tgt := 248) hx hb dL_law_33 (by decide) (by decide) (by decide) (by decide) (law_0 hx hb hr hlocks hX hbl hml hown hts hN hK w_4 hP hD hS hl)
      | 1, _ => exact lv_tableIn (off := 238) (tgt := 271) hx hb dL_law_33 (by decide) (by decide) (by decide) (by decide) (law_1 hx hb hr hlocks hX hbl hml hown hts hN hK w_4 hP hD hS hl)
      | 2, _ => exact lv_tableIn (off := 297) (tgt := 330) hx hb dL_law_33 (by decide) (by decide) (by decide) (by decide) (law_2 hx hb hr hlocks hX hbl hml hown hts hN hK w_4 hP hD hS hl)
      | 3, _ => exact lv_tableIn (off := 366) (tgt := 399) hx hb dL_law_33 (by decide) (by decide) (by decide) (by decide) (law_3 hx hb hr hlocks hX hbl hml hown hts hN hK w_4 hP hD hS hl)
      | 4, _ => exact lv_tableIn (off := 389) (tgt := 422) hx hb dL_law_33 (by decide) (by decide) (by decide) (by decide) (law_4 hx hb hr hlocks hX hbl hml hown hts hN hK w_4 hP hD hS hl)
      | 5, _ => exact lv_tableIn (off := 422) (tgt := 455) hx hb dL_law_33 (by decide) (by decide) (by decide) (by decide) (law_5 hx hb hr hlocks hX hbl hml hown hts hN hK w_4 hP hD hS hl)
      | 6, _ => exact lv_tableIn (off := 475) (tgt := 508) hx hb dL_law_33 (by decide) (by decide) (by decide) (by decide) (law_6 hx hb hr hlocks hX hbl hml hown hts hN hK w_4 hP hD hS hl)
      | 7, _ => exact lv_tableIn (off := 488) (tgt := 521) hx hb dL_law_33 (by decide) (by decide) (by decide) (by decide) (law_7 hx hb hr hlocks hX hbl hml hown hts hN hK w_4 hP hD hS hl)
      | 8, _ => exact lv_tableIn (off := 511) (tgt := 544) hx hb dL_law_33 (by decide) (by decide) (by decide) (by decide) (law_8 hx hb hr hlocks hX hbl hml hown hts hN hK w_4 hP hD hS hl)
      | 9, _ => exact lv_tableIn (off := 534) (tgt := 567) hx hb dL_law_33 (by decide) (by decide) (by decide) (by decide) (law_9 hx hb hr hlocks hX hbl hml hown hts hN hK w_4 hP hD hS hl)
      | 10, _ => exact lv_tableIn (off := 547) (tgt := 580) hx hb dL_law_33 (by decide) (by decide) (by decide) (by decide) (law_10 hx hb hr hlocks hX hbl hml hown hts hN hK w_4 hP hD hS hl)
      | 11, _ => exact lv_tableIn (off := 560) (tgt := 593) hx hb dL_law_33 (by decide) (by decide) (by decide) (by decide) (law_11 hx hb hr hlocks hX hbl hml hown hts hN hK w_4 hP hD hS hl)
      | 12, _ => exact lv_tableIn (off := 583) (tgt := 616) hx hb dL_law_33 (by decide) (by decide) (by decide) (by decide) (law_12 hx hb hr hlocks hX hbl hml hown hts hN hK w_4 hP hD hS hl)
      | 13, _ => exact lv_tableIn (off := 606) (tgt := 639) hx hb dL_law_33 (by decide) (by decide) (by decide) (by decide) (law_13 hx hb hr hlocks hX hbl hml hown hts hN hK w_4 hP hD hS hl)
      | 14, _ => exact lv_tableIn (off := 629) (tgt := 662) hx hb dL_law_33 (by decide) (by decide) (by decide) (by decide) (law_14 hx hb hr hlocks hX hbl hml hown hts hN hK w_4 hP hD hS hl)
      | 15, _ => exact lv_tableIn (off := 662) (tgt := 695) hx hb dL_law_33 (by decide) (by decide) (by decide) (by decide) (law_15 hx hb hr hlocks hX hbl hml hown hts hN hK w_4 hP hD hS hl)
      | 16, _ => exact lv_tableIn (off := 695) (tgt := 728) hx hb dL_law_33 (by decide) (by decide) (by decide) (by decide) (law_16 hx hb hr hlocks hX hbl hml hown hts hN hK w_4 hP hD hS hl)
      | 17, _ => exact lv_tableIn (off := 728) (tgt := 761) hx hb dL_law_33 (by decide) (by decide) (by decide) (by decide) (law_17 hx hb hr hlocks hX hbl hml hown hts hN hK w_4 hP hD hS hl)
      | 18, _ => exact lv_tableIn (off := 751) (tgt := 784) hx hb dL_law_33 (by decide) (by decide) (by decide) (by decide) (law_18 hx hb hr hlocks hX hbl hml hown hts hN hK w_4 hP hD hS hl)
      | 19, _ => exact lv_tableIn (off := 784) (tgt := 817) hx hb dL_law_33 (by decide) (by decide) (by decide) (by decide) (law_19 hx hb hr hlocks hX hbl hml hown hts hN hK w_4 hP hD hS hl)
      | 20, _ => exact lv_tableIn (off := 817) (tgt := 850) hx hb dL_law_33 (by decide) (by decide) (by decide) (by decide) (law_20 hx hb hr hlocks hX hbl hml hown hts hN hK w_4 hP hD hS hl)
      | 21, _ => exact lv_tableIn (off := 860) (tgt := 893) hx hb dL_law_33 (by decide) (by decide) (by decide) (by decide) (law_21 hx hb hr hlocks hX hbl hml hown hts hN hK w_4 hP hD hS hl)
      | 22, _ => exact lv_tableIn (off := 923) (tgt := 956) hx hb dL_law_33 (by decide) (by decide) (by decide) (by decide) (law_22 hx hb hr hlocks hX hbl hml hown hts hN hK w_4 hP hD hS hl)
      | 23, _ => exact lv_tableIn (off := 977) (tgt := 1010) hx hb dL_law_33 (by decide) (by decide) (by decide) (by decide) (law_23 hx hb hr hlocks hX hbl hml hown hts hN hK w_4 hP hD hS hl)
      | 24, _ => exact lv_tableIn (off := 1020) (tgt := 1053) hx hb dL_law_33 (by decide) (by decide) (by decide) (by decide) (law_24 hx hb hr hlocks hX hbl hml hown hts hN hK w_4 hP hD hS hl)
      | 25, _ => exact lv_tableIn (off := 1043) (tgt := 1076) hx hb dL_law_33 (by decide) (by decide) (by decide) (by decide) (law_25 hx hb hr hlocks hX hbl hml hown hts hN hK w_4 hP hD hS hl)
      | 26, _ => exact lv_tableIn (off := 1066) (tgt := 1099) hx hb dL_law_33 (by decide) (by decide) (by decide) (by decide) (law_26 hx hb hr hlocks hX hbl hml hown hts hN hK w_4 hP hD hS hl)
      | 27, _ => exact lv_tableIn (off := 1089) (tgt := 1122) hx hb dL_law_33 (by decide) (by decide) (by decide) (by decide) (law_27 hx hb hr hlocks hX hbl hml hown hts hN hK w_4 hP hD hS hl)
      | 28, _ => exact lv_tableIn (off := 1122) (tgt := 1155) hx hb dL_law_33 (by decide) (by decide) (by decide) (by decide) (law_28 hx hb hr hlocks hX hbl hml hown hts hN hK w_4 hP hD hS hl)
      | 29, _ => exact lv_tableIn (off := 1155) (tgt := 1188) hx hb dL_law_33 (by decide) (by decide) (by decide) (by decide) (law_29 hx hb hr hlocks hX hbl hml hown hts hN hK w_4 hP hD hS hl)
      | 30, _ => exact lv_tableIn (off := 1188) (tgt := 1221) hx hb dL_law_33 (by decide) (by decide) (by decide) (by decide) (law_30 hx hb hr hlocks hX hbl hml hown hts hN hK w_4 hP hD hS hl)
      | 31, _ => exact lv_tableIn (off := 1211) (tgt := 1244) hx hb dL_law_33 (by decide) (by decide) (by decide) (by decide) (law_31 hx hb hr hlocks hX hbl hml hown hts hN hK w_4 hP hD hS hl)
      | 32, _ => exact lv_tableIn (off := 1244) (tgt := 1277) hx hb dL_law_33 (by decide) (by decide) (by decide) (by decide) (law_32 hx hb hr hlocks hX hbl hml hown hts hN hK w_4 hP hD hS hl)
      | 33, _ => exact lv_tableIn (off := 1287) (tgt := 1320) hx hb dL_law_33 (by decide) (by decide) (by decide) (by decide) (law_33 hx hb hr hlocks hX hbl hml hown hts hN hK w_4 hP hD hS hl)
      | 34, _ => exact lv_tableIn (off := 1330) (tgt := 1363) hx hb dL_law_33 (by decide) (by decide) (by decide) (by decide) (law_34 hx hb hr hlocks hX hbl hml hown hts hN hK w_4 hP hD hS hl)
      | 35, _ => exact lv_tableIn (off := 1353) (tgt := 1386) hx hb dL_law_33 (by decide) (by decide) (by decide) (by decide) (law_35 hx hb hr hlocks hX hbl hml hown hts hN hK w_4 hP hD hS hl)
      | 36, _ => exact lv_tableIn (off := 1376) (tgt := 1409) hx hb dL_law_33 (by decide) (by decide) (by decide) (by decide) (law_36 hx hb hr hlocks hX hbl hml hown hts hN hK w_4 hP hD hS hl)
      | 37, _ => exact lv_tableIn (off := 1409) (tgt := 1442) hx hb dL_law_33 (by decide) (by decide) (by decide) (by decide) (law_37 hx hb hr hlocks hX hbl hml hown hts hN hK w_4 hP hD hS hl)
      | 38, _ => exact lv_tableIn (off := 1462) (tgt := 1495) hx hb dL_law_33 (by decide) (by decide) (by decide) (by decide) (law_38 hx hb hr hlocks hX hbl hml hown hts hN hK w_4 hP hD hS hl)
      | 39, _ => exact lv_tableIn (off := 1515) (tgt := 1548) hx hb dL_law_33 (by decide) (by decide) (by decide) (by decide) (law_39 hx hb hr hlocks hX hbl hml hown hts hN hK w_4 hP hD hS hl)
      | 40, _ => exact lv_tableIn (off := 1538) (tgt := 1571) hx hb dL_law_33 (by decide) (by decide) (by decide) (by decide) (law_40 hx hb hr hlocks hX hbl hml hown hts hN hK w_4 hP hD hS hl)
      | 41, _ => exact lv_tableIn (off := 1561) (tgt := 1594) hx hb dL_law_33 (by decide) (by decide) (by decide) (by decide) (law_41 hx hb hr hlocks hX hbl hml hown hts hN hK w_4 hP hD hS hl)
      | 42, _ => exact lv_tableIn (off := 1594) (tgt := 1627) hx hb dL_law_33 (by decide) (by decide) (by decide) (by decide) (law_42 hx hb hr hlocks hX hbl hml hown hts hN hK w_4 hP hD hS hl)
      | 43, _ => exact lv_tableIn (off := 1627) (tgt := 1660) hx hb dL_law_33 (by decide) (by decide) (by decide) (by decide) (law_43 hx hb hr hlocks hX hbl hml hown hts hN hK w_4 hP hD hS hl)
      | 44, _ => exact lv_tableIn (off := 1640) (tgt := 1673) hx hb dL_law_33 (by decide) (by decide) (by decide) (by decide) (law_44 hx hb hr hlocks hX hbl hml hown hts hN hK w_4 hP hD hS hl)
      | 45, _ => exact lv_tableIn (off := 1653) (tgt := 1686) hx hb dL_law_33 (by decide) (by decide) (by decide) (by decide) (law_45 hx hb hr hlocks hX hbl hml hown hts hN hK w_4 hP hD hS hl)
      | 46, _ => exact lv_tableIn (off := 1676) (tgt := 1709) hx hb dL_law_33 (by decide) (by decide) (by decide) (by decide) (law_46 hx hb hr hlocks hX hbl hml hown hts hN hK w_4 hP hD hS hl)
      | 47, _ => exact lv_tableIn (off := 1719) (tgt := 1752) hx hb dL_law_33 (by decide) (by decide) (by decide) (by decide) (law_47 hx hb hr hlocks hX hbl hml hown hts hN hK w_4 hP hD hS hl)
      | 48, _ => exact lv_tableIn (off := 1792) (tgt := 1825) hx hb dL_law_33 (by decide) (by decide) (by decide) (by decide) (law_48 hx hb hr hlocks hX hbl hml hown hts hN hK w_4 hP hD hS hl)
      | 49, _ => exact lv_tableIn (off := 1826) (tgt := 1859) hx hb dL_law_33 (by decide) (by decide) (by decide) (by decide) (law_49 hx hb hr hlocks hX hbl hml hown hts hN hK w_4 hP hD hS hl)
      | j + 50, h => exact absurd (Nat.le_add_left 50 j) h
set_option maxHeartbeats 4000000 in
theorem lw_walk (l : Launch) (hflags : l.flags = flags0) (b : Addr) (xs : List Int32) : MetFree l x (headSpec (Jvm.Cond.code x code maxLocals ret :: tables_1) room_1) (lw_P b xs) (fun _ _ _ _ _ => True) lw_Q := by
  refine MetFree.of_bodyS (code := code) (maxLocals := maxLocals) (ret := ret) (by decide) ?_ ?_
  · intro args s m h hn
    obtain ⟨meth, c, h1, h2, h3, h4, h5, h6, -, -⟩ := Cond.code_spec hn (atoms_spec (ws := Jvm.Cond.code x code maxLocals ret :: tables_1) h _ List.mem_cons_self)
    exact ⟨meth, c, h1, h2, h3, h4, h5, h6⟩
  · intro p e s m args below meth c s₁ B hml0 hP _
    obtain ⟨rfl, hx, hbd, hgv⟩ := hP
    obtain ⟨scr, harrAt, hlist, hof, hsmall⟩ := hx
    obtain ⟨hcb, hkn, -, -⟩ := State.arrayAt?_spec harrAt
    have hown : s.vm.findClass R_law = some m.cls := findClass_of_methodNamed B.named
    have hts0 : ∀ c ∈ (Jvm.Cond.code x code maxLocals ret :: tables_1), c.before #[Value.ref b] s = true := atoms_spec (ws := Jvm.Cond.code x code maxLocals ret :: tables_1) B.pre
    have hts : ∀ w ∈ lw_tbl, w.before #[Value.ref b] s = true := k2_hts_sels lw_privs (fun w hw => hts0 w (List.mem_cons_of_mem _ hw)) lw_privs_ok
    have hml : c.maxLocals = 4 := B.maxLocals_eq (hts0 _ List.mem_cons_self)
    have X₀ : Stand p l e room_1 s m #[Value.ref b] below meth c s₁ [] 0 0 := Stand.of_body B
    have hh0 : s₁.heap = s.heap := by rw [B.state]; rfl
    have hsz : scr.slots.size = xs.length := by rw [← Array.length_toList, hlist, List.length_map]
    have hval : ∀ j : Nat, j < xs.length → scr.slots[j]? = some (.int (xs.getD j 0)) := fun j hj => by
      rw [← Array.getElem?_toList, hlist]
      simp [hj]
    have hbl : b < s.heap.size := (Array.getElem?_eq_some_iff.mp hcb).1
    have hX : va_X b xs.length (fun j => xs.getD j 0) s s.heap := ⟨scr, hcb, hof, hkn, hsz, hval⟩
    have K : W p l e room_1 s m #[Value.ref b] below meth c s₁.heap [] 0 0 (lw_Z below #[Value.ref b] s) (entryFrame m ([Value.ref b] : List Value).toArray 4) := by
      rw [hh0]
      exact whole_start l hflags hbd ⟨B.exec, B.bytes, B.returns, hml, hown, hts, hX, hbl, B.notSynchronized, hgv⟩
    obtain ⟨t, a1, o, b1, b2, b3⟩ := K s₁ rfl X₀
    exact ⟨t, o, a1, b1, b2, b3⟩
theorem lw_pre_spec {args : Array Value} {s : State} (h : (Jvm.Cond.and given_1 narrow_1).before args s = true) (hr : rest_1_c.before args s = true) : ∃ (b : Addr) (xs : List Int32), lw_P b xs args s := by
  have hs := flat_of_before _ h
  have hq := flat_of_before _ hr
  have hc : (Cond.count 1).before args s = true := hs _ (by decide +kernel)
  have harr : (Cond.arrayOf (.arg 0) .int).before args s = true := hs _ (by decide +kernel)
  have hle : (Cond.le (.length (.arg 0)) (.int 6)).before args s = true := hs _ (by decide +kernel)
  have hlen : (Cond.isInt (.length (.arg 0))).before args s = true := hq _ (by decide +kernel)
  have hall : (Cond.all (.arg 0) (.isInt (.elem (.arg 0) (.index 0)))).before args s = true := hq _ (by decide +kernel)
  obtain ⟨b, xs, hb, hx⟩ := State.ints_of_pre rfl harr hlen hall
  have hsm : xs.length < 2 ^ 31 := hx.choose_spec.2.2.2
  have hev : (Term.length (.arg 0)).eval args s none [] s = some (.int xs.length.toInt32) := hx.length_eval hb
  have hv := Cond.le_ints hev (show (Term.int 6).eval args s none [] s = some (.int 6) from rfl)
  have hd : xs.length.toInt32 ≤ 6 := by
    simpa [Cond.before, Cond.holds, hv] using hle
  have hN : xs.length ≤ 6 := (Int32.ofNat_le_ofNat hsm (by decide)).mp (show Int32.ofNat xs.length ≤ Int32.ofNat 6 from hd)
  exact ⟨b, xs, Cond.one_arg hc (show args[0]? = some (.ref b) from hb), hx, hN, h⟩
theorem lw_comes (l : Launch) (hflags : l.flags = flags0) : Comes l x (Jvm.Cond.code x code maxLocals ret :: tables_1) room_1 (fun tb e args s => Calls_1 tb e args s ∧ rest_1 tb e args s ∧ Pre_1 tb e args s)
    (fun _ _ args s o t => lw_Q args s o t) := by
  intro p e ha hc hk s m args below hf hfit hheap happ hpre
  obtain ⟨b, xs, hP⟩ := lw_pre_spec hpre.2.2 hpre.2.1
  obtain ⟨k, o, h1, h2, h3, hQ⟩ := lw_walk l hflags b xs p e ha hc hk s m args below hf ((Spec.applies_iff_loose hf).mp happ).1 hP trivial
  exact ⟨k, o, h1, h2, h3, hQ⟩
theorem lw_frame {s t : State} {o : Outcome} {args : Array Value} (h : Framed s o t [] 600000 7302250) :
    Framed s o t (fieldLocs frame_1_writes args s ++ arrayLocs frame_1_arrays args s ++ staticLocs frame_1_statics s) 600000 7302250 := h
theorem lw_limb (L : Cond) (hL : ∀ (args : Array Value) (s t : State), L.after args s (.returned (some (.int 1))) t = true) :
    ArmFor flags0 classFile x code maxLocals ret World_1 tables_1 room_1 Calls_1 rest_1 Pre_1
      (fun tb e a s o t => postC L tb e a s o t ∧ Framed s o t (fieldLocs frame_1_writes a s ++ arrayLocs frame_1_arrays a s ++ staticLocs frame_1_statics s) 600000 7302250) := by
  intro l hflags _ _ p e ha hc hk s m args below hf hfit hheap happ hpre
  obtain ⟨k, o, h1, h2, h3, rfl, hF⟩ := lw_comes l hflags p e ha hc hk s m args below hf hfit hheap happ hpre
  exact ⟨k, _, h1, h2, h3, hL args s _, lw_frame hF⟩
theorem i_vc : Claimed_1_1 ∧ Claimed_1_2 := ⟨lw_limb limb_1_1 (fun args s t => by simp [limb_1_1, Cond.after, Cond.holds, Cond.value]), lw_limb limb_1_2 (fun args s t => Cond.after_iff.mpr (by
  first | (rw [show limb_1_2 = Cond.eq .result (.int 1) from rfl, Cond.eq_ints (x := 1) (y := 1) rfl rfl]; simp; done) | (simp [limb_1_2, Cond.value, Term.eval]; done)))⟩
