set_option maxHeartbeats 4000000 in
set_option maxRecDepth 100000 in
/-- OnlyHalves.again(I)Z -/
theorem k_X11_again (l : Launch) (dC : Nat → ClassId) (dI : Nat → Nat → Nat) (cB cI cJ cZ cM : ClassId) (h0 h1 h2 h3 h4 h5 h6 h7 h8 h9 h10 h11 h12 h13 h14 h15 : Nat) (sz : Nat) (p0 : Int32) : Met l yX11_again wsX11_again ({ frames := 0, cells := 0, slots := 0, locals := 0 }) (va_Pc [.ref h0, .int p0] (PW (dC, dI) (TY cB cI cJ cZ cM) [(h0, .inr (11, [.ref h3, .ref h4, .ref h5, .ref h1, .ref h2, .ref h6, .ref h7, .ref h8, .ref h9, .ref h10, .ref h11, .ref h12, .ref h13, .int 0, .null])), (h1, .inl (cM, 2, .inr (.inr (.inr (.inr (k_two h14 h15)))))), (h2, .inl (cZ, 2, .inl (fun _ => 0)))] sz)) (va_Qi (fun (r : Int32) (u : va_W) => (r = 0)) (BW (dC, dI) (va_A [(h0, .inr (11, [.ref h3, .ref h4, .ref h5, .ref h1, .ref h2, .ref h6, .ref h7, .ref h8, .ref h9, .ref h10, .ref h11, .ref h12, .ref h13, .int 0, .null])), (h1, .inl (cM, 2, .inr (.inr (.inr (.inr (k_two h14 h15)))))), (h2, .inl (cZ, 2, .inl (fun _ => 0)))] sz)) (va_A [(h0, .inr (11, [.ref h3, .ref h4, .ref h5, .ref h1, .ref h2, .ref h6, .ref h7, .ref h8, .ref h9, .ref h10, .ref h11, .ref h12, .ref h13, .int 0, .null])), (h1, .inl (cM, 2, .inr (.inr (.inr (.inr (k_two h14 h15)))))), (h2, .inl (cZ, 2, .inl (fun _ => 0)))] sz)) 0 0 (va_A [(h0, .inr (11, [.ref h3, .ref h4, .ref h5, .ref h1, .ref h2, .ref h6, .ref h7, .ref h8, .ref h9, .ref h10, .ref h11, .ref h12, .ref h13, .int 0, .null])), (h1, .inl (cM, 2, .inr (.inr (.inr (.inr (k_two h14 h15)))))), (h2, .inl (cZ, 2, .inl (fun _ => 0)))] sz) := by
  refine Met.ofW (cc := cX11_again) (maxL := 2) (ret := (some .boolean)) (by decide) rfl ?_
  intro p e s m args below meth c s₁ B hml hv
  obtain ⟨rfl, hsz, hP, hK, hD0, hO⟩ := hv
  have hx := B.exec
  have hb := B.bytes
  have hr := B.returns
  have hts := atoms_spec (ws := wsX11_again) B.pre
  have hown : s.vm.findClass RX11 = some m.cls := findClass_of_methodNamed B.named
  have hlocks := B.notSynchronized
  subst hsz
  have hD := hD0.self (sz := s.heap.size)
  generalize hAe : va_A [(h0, .inr (11, [.ref h3, .ref h4, .ref h5, .ref h1, .ref h2, .ref h6, .ref h7, .ref h8, .ref h9, .ref h10, .ref h11, .ref h12, .ref h13, .int 0, .null])), (h1, .inl (cM, 2, .inr (.inr (.inr (.inr (k_two h14 h15)))))), (h2, .inl (cZ, 2, .inl (fun _ => 0)))] s.heap.size = A at hD ⊢
  have hA : ∀ q : Nat, s.heap.size ≤ q → A q := fun q h => by rw [← hAe]; exact Or.inr h
  have hS : va_S A s.heap s.heap [] := va_S.rf
  have hP : va_P (dC, dI) vwCl [(h0, .inr (11, [.ref h3, .ref h4, .ref h5, .ref h1, .ref h2, .ref h6, .ref h7, .ref h8, .ref h9, .ref h10, .ref h11, .ref h12, .ref h13, .int 0, .null])), (h1, .inl (cM, 2, .inr (.inr (.inr (.inr (k_two h14 h15)))))), (h2, .inl (cZ, 2, .inl (fun _ => 0)))] s.heap := hP
  have hl := lv_entry ([.ref h0, .int p0]) (n := 2) (Nat.le_of_ble_eq_true rfl)
  rw [lg_entry_eq]
  generalize (lg_sl ([.ref h0, .int p0]) ++ List.replicate (2 - (lg_sl ([.ref h0, .int p0])).length) Slot.unset).toArray = ls at hl ⊢
  have hl : lv_has ls 2 [(0, .ref h0), (1, .int p0)] := hl
  refine w_gen hP hS (fun H locs hP hS => ?_)
  refine lv_iload_n hx hb dX11_again_0 rfl (lv_at hl 1 rfl) ?_
  refine lv_if_lt (tgt := 31) hx hb dX11_again_1 (by decide) (fun c_1 => ?_) (fun c_1 => ?_)
  · refine lv_iconst (v := 0) hx hb dX11_again_31 (by decide) ?_
    have hP9 := hP
    exact W.zret (ty := .boolean) (v := 0) hx hb hr rfl (fun t ht hW => ⟨⟨0, [(h0, .inr (11, [.ref h3, .ref h4, .ref h5, .ref h1, .ref h2, .ref h6, .ref h7, .ref h8, .ref h9, .ref h10, .ref h11, .ref h12, .ref h13, .int 0, .null])), (h1, .inl (cM, 2, .inr (.inr (.inr (.inr (k_two h14 h15)))))), (h2, .inl (cZ, 2, .inl (fun _ => 0)))], rfl, rfl, by rw [ht]; exact hP9, hD⟩, hS.F ht⟩) hS.2.2 dX11_again_32
  · refine lv_iload_n hx hb dX11_again_4 rfl (lv_at hl 1 rfl) ?_
    refine lv_aload_n hx hb dX11_again_5 rfl (lv_at hl 0 rfl) ?_
    refine va_get (D := (dC, dI)) (tys := TY cB cI cJ cZ cM) (ci := 11) (v := .ref h1) (C := RX11) (T := TX11) (N := 15) hx hb hts in_X11_again_X11 hown hK hP 0 rfl rfl 3 (by decide) (hts (.fieldLink RX11 28 "OnlyHalves" "kept" "[LOnlyHalves$Market;") (by decide +kernel)) (fun _ h9 => h9) rfl dX11_again_6 ?_
    refine va_alen (tys := TY cB cI cJ cZ cM) hx hb hK hP 1 4 rfl rfl (v := 2) (show Int32.ofNat 2 = 2 from by decide) dX11_again_9 ?_
    refine lv_icmp_ge (tgt := 31) hx hb dX11_again_10 (by decide) (fun c_2 => ?_) (fun c_2 => ?_)
    · refine lv_iconst (v := 0) hx hb dX11_again_31 (by decide) ?_
      have hP9 := hP
      exact W.zret (ty := .boolean) (v := 0) hx hb hr rfl (fun t ht hW => ⟨⟨0, [(h0, .inr (11, [.ref h3, .ref h4, .ref h5, .ref h1, .ref h2, .ref h6, .ref h7, .ref h8, .ref h9, .ref h10, .ref h11, .ref h12, .ref h13, .int 0, .null])), (h1, .inl (cM, 2, .inr (.inr (.inr (.inr (k_two h14 h15)))))), (h2, .inl (cZ, 2, .inl (fun _ => 0)))], rfl, rfl, by rw [ht]; exact hP9, hD⟩, hS.F ht⟩) hS.2.2 dX11_again_32
    · refine lv_iload_n hx hb dX11_again_13 rfl (lv_at hl 1 rfl) ?_
      refine lv_aload_n hx hb dX11_again_14 rfl (lv_at hl 0 rfl) ?_
      refine va_get (D := (dC, dI)) (tys := TY cB cI cJ cZ cM) (ci := 11) (v := .ref h2) (C := RX11) (T := TX11) (N := 15) hx hb hts in_X11_again_X11 hown hK hP 0 rfl rfl 4 (by decide) (hts (.fieldLink RX11 32 "OnlyHalves" "isKept" "[Z") (by decide +kernel)) (fun _ h9 => h9) rfl dX11_again_15 ?_
      refine va_alen (tys := TY cB cI cJ cZ cM) hx hb hK hP 2 3 rfl rfl (v := 2) (show Int32.ofNat 2 = 2 from by decide) dX11_again_18 ?_
      refine lv_icmp_ge (tgt := 31) hx hb dX11_again_19 (by decide) (fun c_3 => absurd trivial (fun _ => (by have t1 : ¬ (p0 : Int32).toInt < (0 : Int32).toInt := fun q => c_1 (Int32.lt_iff_toInt_lt.mpr q); have t2 : ¬ (2 : Int32).toInt ≤ (p0 : Int32).toInt := fun q => c_2 (Int32.le_iff_toInt_le.mpr q); have t3 : (2 : Int32).toInt ≤ (p0 : Int32).toInt := Int32.le_iff_toInt_le.mp c_3; have z0 : (0 : Int32).toInt = 0 := (by decide); have z1 : (2 : Int32).toInt = 2 := (by decide); omega))) (fun c_3 => ?_)
      refine lv_aload_n hx hb dX11_again_22 rfl (lv_at hl 0 rfl) ?_
      refine va_get (D := (dC, dI)) (tys := TY cB cI cJ cZ cM) (ci := 11) (v := .ref h1) (C := RX11) (T := TX11) (N := 15) hx hb hts in_X11_again_X11 hown hK hP 0 rfl rfl 3 (by decide) (hts (.fieldLink RX11 28 "OnlyHalves" "kept" "[LOnlyHalves$Market;") (by decide +kernel)) (fun _ h9 => h9) rfl dX11_again_23 ?_
      refine lv_iload_n hx hb dX11_again_26 rfl (lv_at hl 1 rfl) ?_
      have h_4 : p0 = 0 ∨ p0 = 1 := by
        have t1 : ¬ (p0 : Int32).toInt < (0 : Int32).toInt := fun q => c_1 (Int32.lt_iff_toInt_lt.mpr q)
        have t2 : ¬ (2 : Int32).toInt ≤ (p0 : Int32).toInt := fun q => c_2 (Int32.le_iff_toInt_le.mpr q)
        have z0 : (0 : Int32).toInt = 0 := (by decide)
        have z1 : (2 : Int32).toInt = 2 := (by decide)
        have y0 : (0 : Int32).toInt = 0 := by decide
        have y1 : (1 : Int32).toInt = 1 := by decide
        rcases (show (p0 : Int32).toInt = 0 ∨ (p0 : Int32).toInt = 1 by omega) with q | q
        · exact Or.inl (Int32.toInt_inj.mp (q.trans y0.symm))
        · exact Or.inr (Int32.toInt_inj.mp (q.trans y1.symm))
      rcases h_4 with rfl | rfl
      · refine va_aldq (tys := TY cB cI cJ cZ cM) hx hb hK hP 1 4 rfl rfl (show vp_in 0 2 from by unfold vp_in; decide) dX11_again_27 ?_
        refine w_top (v' := .ref h14) rfl ?_
        refine lv_ifnonnull (tgt := 33) hx hb dX11_again_28 (by decide) ?_
        refine lv_aload_n hx hb dX11_again_33 rfl (lv_at hl 0 rfl) ?_
        refine va_get (D := (dC, dI)) (tys := TY cB cI cJ cZ cM) (ci := 11) (v := .ref h2) (C := RX11) (T := TX11) (N := 15) hx hb hts in_X11_again_X11 hown hK hP 0 rfl rfl 4 (by decide) (hts (.fieldLink RX11 32 "OnlyHalves" "isKept" "[Z") (by decide +kernel)) (fun _ h9 => h9) rfl dX11_again_34 ?_
        refine lv_iload_n hx hb dX11_again_37 rfl (lv_at hl 1 rfl) ?_
        refine va_zald (tys := TY cB cI cJ cZ cM) hx hb hK hP 2 3 rfl rfl (show vp_in 0 2 from by unfold vp_in; decide) dX11_again_38 ?_
        refine w_top (v' := .int 0) rfl ?_
        refine lv_if_eq (tgt := 80) hx hb dX11_again_39 (by decide) (fun c_5 => ?_) (fun c_5 => absurd c_5 (by decide))
        refine lv_iconst (v := 0) hx hb dX11_again_80 (by decide) ?_
        have hP9 := hP
        exact W.zret (ty := .boolean) (v := 0) hx hb hr rfl (fun t ht hW => ⟨⟨0, [(h0, .inr (11, [.ref h3, .ref h4, .ref h5, .ref h1, .ref h2, .ref h6, .ref h7, .ref h8, .ref h9, .ref h10, .ref h11, .ref h12, .ref h13, .int 0, .null])), (h1, .inl (cM, 2, .inr (.inr (.inr (.inr (k_two h14 h15)))))), (h2, .inl (cZ, 2, .inl (fun _ => 0)))], rfl, rfl, by rw [ht]; exact hP9, hD⟩, hS.F ht⟩) hS.2.2 dX11_again_81
      · refine va_aldq (tys := TY cB cI cJ cZ cM) hx hb hK hP 1 4 rfl rfl (show vp_in 1 2 from by unfold vp_in; decide) dX11_again_27 ?_
        refine w_top (v' := .ref h15) rfl ?_
        refine lv_ifnonnull (tgt := 33) hx hb dX11_again_28 (by decide) ?_
        refine lv_aload_n hx hb dX11_again_33 rfl (lv_at hl 0 rfl) ?_
        refine va_get (D := (dC, dI)) (tys := TY cB cI cJ cZ cM) (ci := 11) (v := .ref h2) (C := RX11) (T := TX11) (N := 15) hx hb hts in_X11_again_X11 hown hK hP 0 rfl rfl 4 (by decide) (hts (.fieldLink RX11 32 "OnlyHalves" "isKept" "[Z") (by decide +kernel)) (fun _ h9 => h9) rfl dX11_again_34 ?_
        refine lv_iload_n hx hb dX11_again_37 rfl (lv_at hl 1 rfl) ?_
        refine va_zald (tys := TY cB cI cJ cZ cM) hx hb hK hP 2 3 rfl rfl (show vp_in 1 2 from by unfold vp_in; decide) dX11_again_38 ?_
        refine w_top (v' := .int 0) rfl ?_
        refine lv_if_eq (tgt := 80) hx hb dX11_again_39 (by decide) (fun c_6 => ?_) (fun c_6 => absurd c_6 (by decide))
        refine lv_iconst (v := 0) hx hb dX11_again_80 (by decide) ?_
        have hP9 := hP
        exact W.zret (ty := .boolean) (v := 0) hx hb hr rfl (fun t ht hW => ⟨⟨0, [(h0, .inr (11, [.ref h3, .ref h4, .ref h5, .ref h1, .ref h2, .ref h6, .ref h7, .ref h8, .ref h9, .ref h10, .ref h11, .ref h12, .ref h13, .int 0, .null])), (h1, .inl (cM, 2, .inr (.inr (.inr (.inr (k_two h14 h15)))))), (h2, .inl (cZ, 2, .inl (fun _ => 0)))], rfl, rfl, by rw [ht]; exact hP9, hD⟩, hS.F ht⟩) hS.2.2 dX11_again_81
set_option maxHeartbeats 4000000 in
set_option maxRecDepth 100000 in
/-- OnlyHalvesModel.again(I)Z -/
theorem k_X12_again (l : Launch) (dC : Nat → ClassId) (dI : Nat → Nat → Nat) (cB cI cJ cZ cM : ClassId) (h0 h1 h2 h3 h4 h5 h6 h7 h8 h9 h10 h11 h12 h13 h14 h15 h16 h17 h18 h19 h20 h21 h22 h23 h24 h25 h26 h27 : Nat) (sz : Nat) (p0 : Int32) : Met l yX12_again wsX12_again ({ frames := 1, cells := 0, slots := 0, locals := 64 }) (va_Pc [.ref h0, .int p0] (PW (dC, dI) (TY cB cI cJ cZ cM) [(h0, .inr (12, [.int 0, .ref h2, .ref h3, .ref h4, .int 0, .ref h5, .ref h6, .ref h7, .ref h8, .int 0, .int 1, .ref h9, .int 0, .ref h10, .int 0, .int 0, .null, .int 0, .int 0, .int 0, .int 0, .ref h11, .ref h12, .int 0, .int (-1), .int 0, .int 0, .int 0, .int 0, .int 0, .int 0, .int 0, .ref h13, .int 0, .ref h14, .int 0, .int 0, .int 0, .int 0, .ref h15, .ref h16, .ref h17, .ref h18, .ref h19, .int 0, .ref h20, .ref h21, .ref h22, .int 0, .int 0, .int 0, .ref h23, .ref h24, .ref h25, .int 0, .int 0, .ref h26, .ref h1, .ref h27])), (h1, .inl (cZ, 2, .inl (fun _ => 0)))] sz)) (va_Qi (fun (r : Int32) (u : va_W) => (r = 0)) (BW (dC, dI) (va_A [(h0, .inr (12, [.int 0, .ref h2, .ref h3, .ref h4, .int 0, .ref h5, .ref h6, .ref h7, .ref h8, .int 0, .int 1, .ref h9, .int 0, .ref h10, .int 0, .int 0, .null, .int 0, .int 0, .int 0, .int 0, .ref h11, .ref h12, .int 0, .int (-1), .int 0, .int 0, .int 0, .int 0, .int 0, .int 0, .int 0, .ref h13, .int 0, .ref h14, .int 0, .int 0, .int 0, .int 0, .ref h15, .ref h16, .ref h17, .ref h18, .ref h19, .int 0, .ref h20, .ref h21, .ref h22, .int 0, .int 0, .int 0, .ref h23, .ref h24, .ref h25, .int 0, .int 0, .ref h26, .ref h1, .ref h27])), (h1, .inl (cZ, 2, .inl (fun _ => 0)))] sz)) (va_A [(h0, .inr (12, [.int 0, .ref h2, .ref h3, .ref h4, .int 0, .ref h5, .ref h6, .ref h7, .ref h8, .int 0, .int 1, .ref h9, .int 0, .ref h10, .int 0, .int 0, .null, .int 0, .int 0, .int 0, .int 0, .ref h11, .ref h12, .int 0, .int (-1), .int 0, .int 0, .int 0, .int 0, .int 0, .int 0, .int 0, .ref h13, .int 0, .ref h14, .int 0, .int 0, .int 0, .int 0, .ref h15, .ref h16, .ref h17, .ref h18, .ref h19, .int 0, .ref h20, .ref h21, .ref h22, .int 0, .int 0, .int 0, .ref h23, .ref h24, .ref h25, .int 0, .int 0, .ref h26, .ref h1, .ref h27])), (h1, .inl (cZ, 2, .inl (fun _ => 0)))] sz)) 0 0 (va_A [(h0, .inr (12, [.int 0, .ref h2, .ref h3, .ref h4, .int 0, .ref h5, .ref h6, .ref h7, .ref h8, .int 0, .int 1, .ref h9, .int 0, .ref h10, .int 0, .int 0, .null, .int 0, .int 0, .int 0, .int 0, .ref h11, .ref h12, .int 0, .int (-1), .int 0, .int 0, .int 0, .int 0, .int 0, .int 0, .int 0, .ref h13, .int 0, .ref h14, .int 0, .int 0, .int 0, .int 0, .ref h15, .ref h16, .ref h17, .ref h18, .ref h19, .int 0, .ref h20, .ref h21, .ref h22, .int 0, .int 0, .int 0, .ref h23, .ref h24, .ref h25, .int 0, .int 0, .ref h26, .ref h1, .ref h27])), (h1, .inl (cZ, 2, .inl (fun _ => 0)))] sz) := by
  refine Met.ofW (cc := cX12_again) (maxL := 4) (ret := (some .boolean)) (by decide) rfl ?_
  intro p e s m args below meth c s₁ B hml hv
  obtain ⟨rfl, hsz, hP, hK, hD0, hO⟩ := hv
  have hx := B.exec
  have hb := B.bytes
  have hr := B.returns
  have hts := atoms_spec (ws := wsX12_again) B.pre
  have hown : s.vm.findClass RX12 = some m.cls := findClass_of_methodNamed B.named
  have hlocks := B.notSynchronized
  subst hsz
  have hD := hD0.self (sz := s.heap.size)
  generalize hAe : va_A [(h0, .inr (12, [.int 0, .ref h2, .ref h3, .ref h4, .int 0, .ref h5, .ref h6, .ref h7, .ref h8, .int 0, .int 1, .ref h9, .int 0, .ref h10, .int 0, .int 0, .null, .int 0, .int 0, .int 0, .int 0, .ref h11, .ref h12, .int 0, .int (-1), .int 0, .int 0, .int 0, .int 0, .int 0, .int 0, .int 0, .ref h13, .int 0, .ref h14, .int 0, .int 0, .int 0, .int 0, .ref h15, .ref h16, .ref h17, .ref h18, .ref h19, .int 0, .ref h20, .ref h21, .ref h22, .int 0, .int 0, .int 0, .ref h23, .ref h24, .ref h25, .int 0, .int 0, .ref h26, .ref h1, .ref h27])), (h1, .inl (cZ, 2, .inl (fun _ => 0)))] s.heap.size = A at hD ⊢
  have hA : ∀ q : Nat, s.heap.size ≤ q → A q := fun q h => by rw [← hAe]; exact Or.inr h
  have hS : va_S A s.heap s.heap [] := va_S.rf
  have hP : va_P (dC, dI) vwCl [(h0, .inr (12, [.int 0, .ref h2, .ref h3, .ref h4, .int 0, .ref h5, .ref h6, .ref h7, .ref h8, .int 0, .int 1, .ref h9, .int 0, .ref h10, .int 0, .int 0, .null, .int 0, .int 0, .int 0, .int 0, .ref h11, .ref h12, .int 0, .int (-1), .int 0, .int 0, .int 0, .int 0, .int 0, .int 0, .int 0, .ref h13, .int 0, .ref h14, .int 0, .int 0, .int 0, .int 0, .ref h15, .ref h16, .ref h17, .ref h18, .ref h19, .int 0, .ref h20, .ref h21, .ref h22, .int 0, .int 0, .int 0, .ref h23, .ref h24, .ref h25, .int 0, .int 0, .ref h26, .ref h1, .ref h27])), (h1, .inl (cZ, 2, .inl (fun _ => 0)))] s.heap := hP
  have hl := lv_entry ([.ref h0, .int p0]) (n := 4) (Nat.le_of_ble_eq_true rfl)
  rw [lg_entry_eq]
  generalize (lg_sl ([.ref h0, .int p0]) ++ List.replicate (4 - (lg_sl ([.ref h0, .int p0])).length) Slot.unset).toArray = ls at hl ⊢
  have hl : lv_has ls 4 [(0, .ref h0), (1, .int p0)] := hl
  refine w_gen hP hS (fun H locs hP hS => ?_)
  refine lv_aload_n hx hb dX12_again_0 rfl (lv_at hl 0 rfl) ?_
  refine lv_iconst (v := 0) hx hb dX12_again_1 (by decide) ?_
  refine va_put (D := (dC, dI)) (tys := TY cB cI cJ cZ cM) (ci := 12) (v := .int 0) (ty := .int) (C := RX12) (T := TX12) (N := 59) hx hb hts in_X12_again_X12 tyX12 tyX12_ok nmX12 hown hK hP hD hS 0 rfl rfl 15 (by decide) (hts (.fieldLink RX12 101 "OnlyHalvesModel" "thrown" "I") (by decide +kernel)) (fun _ h9 => h9) rfl (by decide +kernel) rfl rfl (Nat.le_of_ble_eq_true rfl) dX12_again_2 (fun H locs hP hD hS => ?_)
  have hP : va_P (dC, dI) vwCl [(h0, .inr (12, [.int 0, .ref h2, .ref h3, .ref h4, .int 0, .ref h5, .ref h6, .ref h7, .ref h8, .int 0, .int 1, .ref h9, .int 0, .ref h10, .int 0, .int 0, .null, .int 0, .int 0, .int 0, .int 0, .ref h11, .ref h12, .int 0, .int (-1), .int 0, .int 0, .int 0, .int 0, .int 0, .int 0, .int 0, .ref h13, .int 0, .ref h14, .int 0, .int 0, .int 0, .int 0, .ref h15, .ref h16, .ref h17, .ref h18, .ref h19, .int 0, .ref h20, .ref h21, .ref h22, .int 0, .int 0, .int 0, .ref h23, .ref h24, .ref h25, .int 0, .int 0, .ref h26, .ref h1, .ref h27])), (h1, .inl (cZ, 2, .inl (fun _ => 0)))] H := hP
  have hD : va_D A [(h0, .inr (12, [.int 0, .ref h2, .ref h3, .ref h4, .int 0, .ref h5, .ref h6, .ref h7, .ref h8, .int 0, .int 1, .ref h9, .int 0, .ref h10, .int 0, .int 0, .null, .int 0, .int 0, .int 0, .int 0, .ref h11, .ref h12, .int 0, .int (-1), .int 0, .int 0, .int 0, .int 0, .int 0, .int 0, .int 0, .ref h13, .int 0, .ref h14, .int 0, .int 0, .int 0, .int 0, .ref h15, .ref h16, .ref h17, .ref h18, .ref h19, .int 0, .ref h20, .ref h21, .ref h22, .int 0, .int 0, .int 0, .ref h23, .ref h24, .ref h25, .int 0, .int 0, .ref h26, .ref h1, .ref h27])), (h1, .inl (cZ, 2, .inl (fun _ => 0)))] := hD
  refine lv_iload_n hx hb dX12_again_5 rfl (lv_at hl 1 rfl) ?_
  refine lv_iconst (v := 0) hx hb dX12_again_6 (by decide) ?_
  refine lv_iconst (v := 1) hx hb dX12_again_7 (by decide) ?_
  refine k_iS (As := [.int p0, .int 0, .int 1]) (rest := []) (wr := [(h0, .inr (12, [.int 0, .ref h2, .ref h3, .ref h4, .int 0, .ref h5, .ref h6, .ref h7, .ref h8, .int 0, .int 1, .ref h9, .int 0, .ref h10, .int 0, .int 0, .null, .int 0, .int 0, .int 0, .int 0, .ref h11, .ref h12, .int 0, .int (-1), .int 0, .int 0, .int 0, .int 0, .int 0, .int 0, .int 0, .ref h13, .int 0, .ref h14, .int 0, .int 0, .int 0, .int 0, .ref h15, .ref h16, .ref h17, .ref h18, .ref h19, .int 0, .ref h20, .ref h21, .ref h22, .int 0, .int 0, .int 0, .ref h23, .ref h24, .ref h25, .int 0, .int 0, .ref h26, .ref h1, .ref h27])), (h1, .inl (cZ, 2, .inl (fun _ => 0)))]) ⟨hx, hb, hml, hown, hts⟩ (k_X12_in_v3 l dC dI cB cI cJ cZ cM  H.size p0) (va_cwS 3 hts gX12_again_X12_in rfl rfl rfl (by decide +kernel) ⟨Nat.le_of_ble_eq_true rfl, Nat.le_of_ble_eq_true rfl⟩) hK hO hP hD hS hA [] [0, 1] rfl rfl rfl (by decide) (by decide) (by decide) rfl hl.1 rfl (Nat.le_of_ble_eq_true rfl) dX12_again_8 ⟨Nat.le_of_ble_eq_true rfl, Nat.le_of_ble_eq_true rfl⟩ (fun r_1 u_3 H locs hw_4 hP hD hS => ?_)
  rcases hw_4 with ⟨rfl, rfl, c_5⟩ | ⟨rfl, rfl, c_6, c_7⟩ | ⟨rfl, rfl, c_8, c_9⟩
  · have hP : va_P (dC, dI) vwCl [(h0, .inr (12, [.int 0, .ref h2, .ref h3, .ref h4, .int 0, .ref h5, .ref h6, .ref h7, .ref h8, .int 0, .int 1, .ref h9, .int 0, .ref h10, .int 0, .int 0, .null, .int 0, .int 0, .int 0, .int 0, .ref h11, .ref h12, .int 0, .int (-1), .int 0, .int 0, .int 0, .int 0, .int 0, .int 0, .int 0, .ref h13, .int 0, .ref h14, .int 0, .int 0, .int 0, .int 0, .ref h15, .ref h16, .ref h17, .ref h18, .ref h19, .int 0, .ref h20, .ref h21, .ref h22, .int 0, .int 0, .int 0, .ref h23, .ref h24, .ref h25, .int 0, .int 0, .ref h26, .ref h1, .ref h27])), (h1, .inl (cZ, 2, .inl (fun _ => 0)))] H := hP
    have hD : va_D A [(h0, .inr (12, [.int 0, .ref h2, .ref h3, .ref h4, .int 0, .ref h5, .ref h6, .ref h7, .ref h8, .int 0, .int 1, .ref h9, .int 0, .ref h10, .int 0, .int 0, .null, .int 0, .int 0, .int 0, .int 0, .ref h11, .ref h12, .int 0, .int (-1), .int 0, .int 0, .int 0, .int 0, .int 0, .int 0, .int 0, .ref h13, .int 0, .ref h14, .int 0, .int 0, .int 0, .int 0, .ref h15, .ref h16, .ref h17, .ref h18, .ref h19, .int 0, .ref h20, .ref h21, .ref h22, .int 0, .int 0, .int 0, .ref h23, .ref h24, .ref h25, .int 0, .int 0, .ref h26, .ref h1, .ref h27])), (h1, .inl (cZ, 2, .inl (fun _ => 0)))] := hD
    refine lv_if_eq (tgt := 36) hx hb dX12_again_11 (by decide) (fun c_10 => ?_) (fun c_10 => absurd c_10 (by decide))
    refine lv_iconst (v := 0) hx hb dX12_again_36 (by decide) ?_
    have hP9 := hP
    exact W.zret (ty := .boolean) (v := 0) hx hb hr rfl (fun t ht hW => ⟨⟨0, [(h0, .inr (12, [.int 0, .ref h2, .ref h3, .ref h4, .int 0, .ref h5, .ref h6, .ref h7, .ref h8, .int 0, .int 1, .ref h9, .int 0, .ref h10, .int 0, .int 0, .null, .int 0, .int 0, .int 0, .int 0, .ref h11, .ref h12, .int 0, .int (-1), .int 0, .int 0, .int 0, .int 0, .int 0, .int 0, .int 0, .ref h13, .int 0, .ref h14, .int 0, .int 0, .int 0, .int 0, .ref h15, .ref h16, .ref h17, .ref h18, .ref h19, .int 0, .ref h20, .ref h21, .ref h22, .int 0, .int 0, .int 0, .ref h23, .ref h24, .ref h25, .int 0, .int 0, .ref h26, .ref h1, .ref h27])), (h1, .inl (cZ, 2, .inl (fun _ => 0)))], rfl, rfl, by rw [ht]; exact hP9, hD⟩, hS.F ht⟩) hS.2.2 dX12_again_37
  · have hP : va_P (dC, dI) vwCl [(h0, .inr (12, [.int 0, .ref h2, .ref h3, .ref h4, .int 0, .ref h5, .ref h6, .ref h7, .ref h8, .int 0, .int 1, .ref h9, .int 0, .ref h10, .int 0, .int 0, .null, .int 0, .int 0, .int 0, .int 0, .ref h11, .ref h12, .int 0, .int (-1), .int 0, .int 0, .int 0, .int 0, .int 0, .int 0, .int 0, .ref h13, .int 0, .ref h14, .int 0, .int 0, .int 0, .int 0, .ref h15, .ref h16, .ref h17, .ref h18, .ref h19, .int 0, .ref h20, .ref h21, .ref h22, .int 0, .int 0, .int 0, .ref h23, .ref h24, .ref h25, .int 0, .int 0, .ref h26, .ref h1, .ref h27])), (h1, .inl (cZ, 2, .inl (fun _ => 0)))] H := hP
    have hD : va_D A [(h0, .inr (12, [.int 0, .ref h2, .ref h3, .ref h4, .int 0, .ref h5, .ref h6, .ref h7, .ref h8, .int 0, .int 1, .ref h9, .int 0, .ref h10, .int 0, .int 0, .null, .int 0, .int 0, .int 0, .int 0, .ref h11, .ref h12, .int 0, .int (-1), .int 0, .int 0, .int 0, .int 0, .int 0, .int 0, .int 0, .ref h13, .int 0, .ref h14, .int 0, .int 0, .int 0, .int 0, .ref h15, .ref h16, .ref h17, .ref h18, .ref h19, .int 0, .ref h20, .ref h21, .ref h22, .int 0, .int 0, .int 0, .ref h23, .ref h24, .ref h25, .int 0, .int 0, .ref h26, .ref h1, .ref h27])), (h1, .inl (cZ, 2, .inl (fun _ => 0)))] := hD
    refine lv_if_eq (tgt := 36) hx hb dX12_again_11 (by decide) (fun c_11 => ?_) (fun c_11 => absurd c_11 (by decide))
    refine lv_iconst (v := 0) hx hb dX12_again_36 (by decide) ?_
    have hP9 := hP
    exact W.zret (ty := .boolean) (v := 0) hx hb hr rfl (fun t ht hW => ⟨⟨0, [(h0, .inr (12, [.int 0, .ref h2, .ref h3, .ref h4, .int 0, .ref h5, .ref h6, .ref h7, .ref h8, .int 0, .int 1, .ref h9, .int 0, .ref h10, .int 0, .int 0, .null, .int 0, .int 0, .int 0, .int 0, .ref h11, .ref h12, .int 0, .int (-1), .int 0, .int 0, .int 0, .int 0, .int 0, .int 0, .int 0, .ref h13, .int 0, .ref h14, .int 0, .int 0, .int 0, .int 0, .ref h15, .ref h16, .ref h17, .ref h18, .ref h19, .int 0, .ref h20, .ref h21, .ref h22, .int 0, .int 0, .int 0, .ref h23, .ref h24, .ref h25, .int 0, .int 0, .ref h26, .ref h1, .ref h27])), (h1, .inl (cZ, 2, .inl (fun _ => 0)))], rfl, rfl, by rw [ht]; exact hP9, hD⟩, hS.F ht⟩) hS.2.2 dX12_again_37
  · have hP : va_P (dC, dI) vwCl [(h0, .inr (12, [.int 0, .ref h2, .ref h3, .ref h4, .int 0, .ref h5, .ref h6, .ref h7, .ref h8, .int 0, .int 1, .ref h9, .int 0, .ref h10, .int 0, .int 0, .null, .int 0, .int 0, .int 0, .int 0, .ref h11, .ref h12, .int 0, .int (-1), .int 0, .int 0, .int 0, .int 0, .int 0, .int 0, .int 0, .ref h13, .int 0, .ref h14, .int 0, .int 0, .int 0, .int 0, .ref h15, .ref h16, .ref h17, .ref h18, .ref h19, .int 0, .ref h20, .ref h21, .ref h22, .int 0, .int 0, .int 0, .ref h23, .ref h24, .ref h25, .int 0, .int 0, .ref h26, .ref h1, .ref h27])), (h1, .inl (cZ, 2, .inl (fun _ => 0)))] H := hP
    have hD : va_D A [(h0, .inr (12, [.int 0, .ref h2, .ref h3, .ref h4, .int 0, .ref h5, .ref h6, .ref h7, .ref h8, .int 0, .int 1, .ref h9, .int 0, .ref h10, .int 0, .int 0, .null, .int 0, .int 0, .int 0, .int 0, .ref h11, .ref h12, .int 0, .int (-1), .int 0, .int 0, .int 0, .int 0, .int 0, .int 0, .int 0, .ref h13, .int 0, .ref h14, .int 0, .int 0, .int 0, .int 0, .ref h15, .ref h16, .ref h17, .ref h18, .ref h19, .int 0, .ref h20, .ref h21, .ref h22, .int 0, .int 0, .int 0, .ref h23, .ref h24, .ref h25, .int 0, .int 0, .ref h26, .ref h1, .ref h27])), (h1, .inl (cZ, 2, .inl (fun _ => 0)))] := hD
    refine lv_if_eq (tgt := 36) hx hb dX12_again_11 (by decide) (fun c_12 => absurd c_12 (by decide)) (fun c_12 => ?_)
    refine lv_aload_n hx hb dX12_again_14 rfl (lv_at hl 0 rfl) ?_
    refine va_get (D := (dC, dI)) (tys := TY cB cI cJ cZ cM) (ci := 12) (v := .ref h1) (C := RX12) (T := TX12) (N := 59) hx hb hts in_X12_again_X12 hown hK hP 0 rfl rfl 57 (by decide) (hts (.fieldLink RX12 95 "OnlyHalvesModel" "isKept" "[Z") (by decide +kernel)) (fun _ h9 => h9) rfl dX12_again_15 ?_
    refine lv_iload_n hx hb dX12_again_18 rfl (lv_at hl 1 rfl) ?_
    have h_13 : p0 = 0 ∨ p0 = 1 := by
      have t1 : ¬ (p0 : Int32).toInt < (0 : Int32).toInt := fun q => c_8 (Int32.lt_iff_toInt_lt.mpr q)
      have t2 : ¬ (1 : Int32).toInt < (p0 : Int32).toInt := fun q => c_9 (Int32.lt_iff_toInt_lt.mpr q)
      have z0 : (0 : Int32).toInt = 0 := (by decide)
      have z1 : (1 : Int32).toInt = 1 := (by decide)
      have y0 : (0 : Int32).toInt = 0 := by decide
      have y1 : (1 : Int32).toInt = 1 := by decide
      rcases (show (p0 : Int32).toInt = 0 ∨ (p0 : Int32).toInt = 1 by omega) with q | q
      · exact Or.inl (Int32.toInt_inj.mp (q.trans y0.symm))
      · exact Or.inr (Int32.toInt_inj.mp (q.trans y1.symm))
    rcases h_13 with rfl | rfl
    · refine va_zald (tys := TY cB cI cJ cZ cM) hx hb hK hP 1 3 rfl rfl (show vp_in 0 2 from by unfold vp_in; decide) dX12_again_19 ?_
      refine w_top (v' := .int 0) rfl ?_
      refine lv_if_eq (tgt := 36) hx hb dX12_again_20 (by decide) (fun c_14 => ?_) (fun c_14 => absurd c_14 (by decide))
      refine lv_iconst (v := 0) hx hb dX12_again_36 (by decide) ?_
      have hP9 := hP
      exact W.zret (ty := .boolean) (v := 0) hx hb hr rfl (fun t ht hW => ⟨⟨0, [(h0, .inr (12, [.int 0, .ref h2, .ref h3, .ref h4, .int 0, .ref h5, .ref h6, .ref h7, .ref h8, .int 0, .int 1, .ref h9, .int 0, .ref h10, .int 0, .int 0, .null, .int 0, .int 0, .int 0, .int 0, .ref h11, .ref h12, .int 0, .int (-1), .int 0, .int 0, .int 0, .int 0, .int 0, .int 0, .int 0, .ref h13, .int 0, .ref h14, .int 0, .int 0, .int 0, .int 0, .ref h15, .ref h16, .ref h17, .ref h18, .ref h19, .int 0, .ref h20, .ref h21, .ref h22, .int 0, .int 0, .int 0, .ref h23, .ref h24, .ref h25, .int 0, .int 0, .ref h26, .ref h1, .ref h27])), (h1, .inl (cZ, 2, .inl (fun _ => 0)))], rfl, rfl, by rw [ht]; exact hP9, hD⟩, hS.F ht⟩) hS.2.2 dX12_again_37
    · refine va_zald (tys := TY cB cI cJ cZ cM) hx hb hK hP 1 3 rfl rfl (show vp_in 1 2 from by unfold vp_in; decide) dX12_again_19 ?_
      refine w_top (v' := .int 0) rfl ?_
      refine lv_if_eq (tgt := 36) hx hb dX12_again_20 (by decide) (fun c_15 => ?_) (fun c_15 => absurd c_15 (by decide))
      refine lv_iconst (v := 0) hx hb dX12_again_36 (by decide) ?_
      have hP9 := hP
      exact W.zret (ty := .boolean) (v := 0) hx hb hr rfl (fun t ht hW => ⟨⟨0, [(h0, .inr (12, [.int 0, .ref h2, .ref h3, .ref h4, .int 0, .ref h5, .ref h6, .ref h7, .ref h8, .int 0, .int 1, .ref h9, .int 0, .ref h10, .int 0, .int 0, .null, .int 0, .int 0, .int 0, .int 0, .ref h11, .ref h12, .int 0, .int (-1), .int 0, .int 0, .int 0, .int 0, .int 0, .int 0, .int 0, .ref h13, .int 0, .ref h14, .int 0, .int 0, .int 0, .int 0, .ref h15, .ref h16, .ref h17, .ref h18, .ref h19, .int 0, .ref h20, .ref h21, .ref h22, .int 0, .int 0, .int 0, .ref h23, .ref h24, .ref h25, .int 0, .int 0, .ref h26, .ref h1, .ref h27])), (h1, .inl (cZ, 2, .inl (fun _ => 0)))], rfl, rfl, by rw [ht]; exact hP9, hD⟩, hS.F ht⟩) hS.2.2 dX12_again_37
set_option maxHeartbeats 4000000 in
set_option maxRecDepth 100000 in
/-- OnlyHalves$Past.size()I -/
theorem k_X4_size (l : Launch) (dC : Nat → ClassId) (dI : Nat → Nat → Nat) (cB cI cJ cZ cM : ClassId) (h0 h1 h2 h3 : Nat) (sz : Nat) : Met l yX4_size wsX4_size ({ frames := 0, cells := 0, slots := 0, locals := 0 }) (va_Pc [.ref h0] (PW (dC, dI) (TY cB cI cJ cZ cM) [(h0, .inr (4, [.ref h1, .ref h2, .ref h3, .int 0, .int 0]))] sz)) (va_Qi (fun (r : Int32) (u : va_W) => (r = 0 ∧ u = [(h0, .inr (4, [.ref h1, .ref h2, .ref h3, .int 0, .int 0]))])) (BW (dC, dI) (va_A [(h0, .inr (4, [.ref h1, .ref h2, .ref h3, .int 0, .int 0]))] sz)) (va_A [(h0, .inr (4, [.ref h1, .ref h2, .ref h3, .int 0, .int 0]))] sz)) 0 0 (va_A [(h0, .inr (4, [.ref h1, .ref h2, .ref h3, .int 0, .int 0]))] sz) := by
  refine Met.ofW (cc := cX4_size) (maxL := 1) (ret := (some .int)) (by decide) rfl ?_
  intro p e s m args below meth c s₁ B hml hv
  obtain ⟨rfl, hsz, hP, hK, hD0, hO⟩ := hv
  have hx := B.exec
  have hb := B.bytes
  have hr := B.returns
  have hts := atoms_spec (ws := wsX4_size) B.pre
  have hown : s.vm.findClass RX4 = some m.cls := findClass_of_methodNamed B.named
  have hlocks := B.notSynchronized
  subst hsz
  have hD := hD0.self (sz := s.heap.size)
  generalize hAe : va_A [(h0, .inr (4, [.ref h1, .ref h2, .ref h3, .int 0, .int 0]))] s.heap.size = A at hD ⊢
  have hA : ∀ q : Nat, s.heap.size ≤ q → A q := fun q h => by rw [← hAe]; exact Or.inr h
  have hS : va_S A s.heap s.heap [] := va_S.rf
  have hP : va_P (dC, dI) vwCl [(h0, .inr (4, [.ref h1, .ref h2, .ref h3, .int 0, .int 0]))] s.heap := hP
  have hl := lv_entry ([.ref h0]) (n := 1) (Nat.le_of_ble_eq_true rfl)
  rw [lg_entry_eq]
  generalize (lg_sl ([.ref h0]) ++ List.replicate (1 - (lg_sl ([.ref h0])).length) Slot.unset).toArray = ls at hl ⊢
  have hl : lv_has ls 1 [(0, .ref h0)] := hl
  refine w_gen hP hS (fun H locs hP hS => ?_)
  refine lv_aload_n hx hb dX4_size_0 rfl (lv_at hl 0 rfl) ?_
  refine va_get (D := (dC, dI)) (tys := TY cB cI cJ cZ cM) (ci := 4) (v := .int 0) (C := RX4) (T := TX4) (N := 5) hx hb hts in_X4_size_X4 hown hK hP 0 rfl rfl 3 (by decide) (hts (.fieldLink RX4 19 "OnlyHalves$Past" "size" "I") (by decide +kernel)) (fun _ h9 => h9) rfl dX4_size_1 ?_
  have hP9 := hP
  exact W.iret (v := 0) hx hb hr (fun t ht hW => ⟨⟨0, [(h0, .inr (4, [.ref h1, .ref h2, .ref h3, .int 0, .int 0]))], rfl, ⟨rfl, rfl⟩, by rw [ht]; exact hP9, hD⟩, hS.F ht⟩) hS.2.2 dX4_size_4
set_option maxHeartbeats 4000000 in
set_option maxRecDepth 100000 in
/-- OnlyHalves$Book.size()I -/
theorem k_X0_size (l : Launch) (dC : Nat → ClassId) (dI : Nat → Nat → Nat) (cB cI cJ cZ cM : ClassId) (h0 h1 h2 : Nat) (sz : Nat) : Met l yX0_size wsX0_size ({ frames := 0, cells := 0, slots := 0, locals := 0 }) (va_Pc [.ref h0] (PW (dC, dI) (TY cB cI cJ cZ cM) [(h0, .inr (0, [.ref h1, .ref h2, .int 0, .int 0, .int 0]))] sz)) (va_Qi (fun (r : Int32) (u : va_W) => (r = 0 ∧ u = [(h0, .inr (0, [.ref h1, .ref h2, .int 0, .int 0, .int 0]))])) (BW (dC, dI) (va_A [(h0, .inr (0, [.ref h1, .ref h2, .int 0, .int 0, .int 0]))] sz)) (va_A [(h0, .inr (0, [.ref h1, .ref h2, .int 0, .int 0, .int 0]))] sz)) 0 0 (va_A [(h0, .inr (0, [.ref h1, .ref h2, .int 0, .int 0, .int 0]))] sz) := by
  refine Met.ofW (cc := cX0_size) (maxL := 1) (ret := (some .int)) (by decide) rfl ?_
  intro p e s m args below meth c s₁ B hml hv
  obtain ⟨rfl, hsz, hP, hK, hD0, hO⟩ := hv
  have hx := B.exec
  have hb := B.bytes
  have hr := B.returns
  have hts := atoms_spec (ws := wsX0_size) B.pre
  have hown : s.vm.findClass RX0 = some m.cls := findClass_of_methodNamed B.named
  have hlocks := B.notSynchronized
  subst hsz
  have hD := hD0.self (sz := s.heap.size)
  generalize hAe : va_A [(h0, .inr (0, [.ref h1, .ref h2, .int 0, .int 0, .int 0]))] s.heap.size = A at hD ⊢
  have hA : ∀ q : Nat, s.heap.size ≤ q → A q := fun q h => by rw [← hAe]; exact Or.inr h
  have hS : va_S A s.heap s.heap [] := va_S.rf
  have hP : va_P (dC, dI) vwCl [(h0, .inr (0, [.ref h1, .ref h2, .int 0, .int 0, .int 0]))] s.heap := hP
  have hl := lv_entry ([.ref h0]) (n := 1) (Nat.le_of_ble_eq_true rfl)
  rw [lg_entry_eq]
  generalize (lg_sl ([.ref h0]) ++ List.replicate (1 - (lg_sl ([.ref h0])).length) Slot.unset).toArray = ls at hl ⊢
  have hl : lv_has ls 1 [(0, .ref h0)] := hl
  refine w_gen hP hS (fun H locs hP hS => ?_)
  refine lv_aload_n hx hb dX0_size_0 rfl (lv_at hl 0 rfl) ?_
  refine va_get (D := (dC, dI)) (tys := TY cB cI cJ cZ cM) (ci := 0) (v := .int 0) (C := RX0) (T := TX0) (N := 5) hx hb hts in_X0_size_X0 hown hK hP 0 rfl rfl 2 (by decide) (hts (.fieldLink RX0 18 "OnlyHalves$Book" "size" "I") (by decide +kernel)) (fun _ h9 => h9) rfl dX0_size_1 ?_
  have hP9 := hP
  exact W.iret (v := 0) hx hb hr (fun t ht hW => ⟨⟨0, [(h0, .inr (0, [.ref h1, .ref h2, .int 0, .int 0, .int 0]))], rfl, ⟨rfl, rfl⟩, by rw [ht]; exact hP9, hD⟩, hS.F ht⟩) hS.2.2 dX0_size_4
set_option maxHeartbeats 4000000 in
set_option maxRecDepth 100000 in
/-- OnlyHalves$Market.coinOfAll()I -/
theorem k_X2_coinOfAll (l : Launch) (dC : Nat → ClassId) (dI : Nat → Nat → Nat) (cB cI cJ cZ cM : ClassId) (h0 h1 h2 : Nat) (sz : Nat) : Met l yX2_coinOfAll wsX2_coinOfAll ({ frames := 0, cells := 0, slots := 0, locals := 0 }) (va_Pc [.ref h0] (PW (dC, dI) (TY cB cI cJ cZ cM) [(h0, .inr (2, [.ref h1, .ref h2, .int 0, .int 0, .long 0, .long 0, .long 0, .long 0, .long 0, .int 0, .int 0, .int 1]))] sz)) (va_Qi (fun (r : Int32) (u : va_W) => (r = 0 ∧ u = [(h0, .inr (2, [.ref h1, .ref h2, .int 0, .int 0, .long 0, .long 0, .long 0, .long 0, .long 0, .int 0, .int 0, .int 1]))])) (BW (dC, dI) (va_A [(h0, .inr (2, [.ref h1, .ref h2, .int 0, .int 0, .long 0, .long 0, .long 0, .long 0, .long 0, .int 0, .int 0, .int 1]))] sz)) (va_A [(h0, .inr (2, [.ref h1, .ref h2, .int 0, .int 0, .long 0, .long 0, .long 0, .long 0, .long 0, .int 0, .int 0, .int 1]))] sz)) 0 0 (va_A [(h0, .inr (2, [.ref h1, .ref h2, .int 0, .int 0, .long 0, .long 0, .long 0, .long 0, .long 0, .int 0, .int 0, .int 1]))] sz) := by
  refine Met.ofW (cc := cX2_coinOfAll) (maxL := 3) (ret := (some .int)) (by decide) rfl ?_
  intro p e s m args below meth c s₁ B hml hv
  obtain ⟨rfl, hsz, hP, hK, hD0, hO⟩ := hv
  have hx := B.exec
  have hb := B.bytes
  have hr := B.returns
  have hts := atoms_spec (ws := wsX2_coinOfAll) B.pre
  have hown : s.vm.findClass RX2 = some m.cls := findClass_of_methodNamed B.named
  have hlocks := B.notSynchronized
  subst hsz
  have hD := hD0.self (sz := s.heap.size)
  generalize hAe : va_A [(h0, .inr (2, [.ref h1, .ref h2, .int 0, .int 0, .long 0, .long 0, .long 0, .long 0, .long 0, .int 0, .int 0, .int 1]))] s.heap.size = A at hD ⊢
  have hA : ∀ q : Nat, s.heap.size ≤ q → A q := fun q h => by rw [← hAe]; exact Or.inr h
  have hS : va_S A s.heap s.heap [] := va_S.rf
  have hP : va_P (dC, dI) vwCl [(h0, .inr (2, [.ref h1, .ref h2, .int 0, .int 0, .long 0, .long 0, .long 0, .long 0, .long 0, .int 0, .int 0, .int 1]))] s.heap := hP
  have hl := lv_entry ([.ref h0]) (n := 3) (Nat.le_of_ble_eq_true rfl)
  rw [lg_entry_eq]
  generalize (lg_sl ([.ref h0]) ++ List.replicate (3 - (lg_sl ([.ref h0])).length) Slot.unset).toArray = ls at hl ⊢
  have hl : lv_has ls 3 [(0, .ref h0)] := hl
  refine w_gen hP hS (fun H locs hP hS => ?_)
  refine lv_iconst (v := 0) hx hb dX2_coinOfAll_0 (by decide) ?_
  refine lv_istore_n (lv' := [(1, .int 0), (0, .ref h0)]) hx hb dX2_coinOfAll_1 rfl hl (by decide) rfl (fun ls hl => ?_)
  refine lv_iconst (v := 0) hx hb dX2_coinOfAll_2 (by decide) ?_
  refine lv_istore_n (lv' := [(2, .int 0), (1, .int 0), (0, .ref h0)]) hx hb dX2_coinOfAll_3 rfl hl (by decide) rfl (fun ls hl => ?_)
  refine lv_iload_n hx hb dX2_coinOfAll_4 rfl (lv_at hl 0 rfl) ?_
  refine lv_aload_n hx hb dX2_coinOfAll_5 rfl (lv_at hl 2 rfl) ?_
  refine va_get (D := (dC, dI)) (tys := TY cB cI cJ cZ cM) (ci := 2) (v := .int 0) (C := RX2) (T := TX2) (N := 12) hx hb hts in_X2_coinOfAll_X2 hown hK hP 0 rfl rfl 2 (by decide) (hts (.fieldLink RX2 22 "OnlyHalves$Market" "people" "I") (by decide +kernel)) (fun _ h9 => h9) rfl dX2_coinOfAll_6 ?_
  refine lv_icmp_ge (tgt := 26) hx hb dX2_coinOfAll_9 (by decide) (fun c_1 => ?_) (fun c_1 => absurd c_1 (by decide))
  refine lv_iload_n hx hb dX2_coinOfAll_26 rfl (lv_at hl 1 rfl) ?_
  have hP9 := hP
  exact W.iret (v := 0) hx hb hr (fun t ht hW => ⟨⟨0, [(h0, .inr (2, [.ref h1, .ref h2, .int 0, .int 0, .long 0, .long 0, .long 0, .long 0, .long 0, .int 0, .int 0, .int 1]))], rfl, ⟨rfl, rfl⟩, by rw [ht]; exact hP9, hD⟩, hS.F ht⟩) hS.2.2 dX2_coinOfAll_27
set_option maxHeartbeats 4000000 in
set_option maxRecDepth 100000 in
/-- OnlyHalves.count(I)I -/
theorem k_X11_count (l : Launch) (dC : Nat → ClassId) (dI : Nat → Nat → Nat) (cB cI cJ cZ cM : ClassId) (h0 h1 h2 h3 h4 h5 h6 h7 h8 h9 h10 h11 h12 h13 h14 h15 h16 h17 h18 h19 h20 h21 : Nat) (sz : Nat) (p0 : Int32) : Met l yX11_count wsX11_count ({ frames := 1, cells := 0, slots := 0, locals := 64 }) (va_Pc [.ref h0, .int p0] (PW (dC, dI) (TY cB cI cJ cZ cM) [(h0, .inr (11, [.ref h1, .ref h2, .ref h5, .ref h6, .ref h7, .ref h8, .ref h9, .ref h10, .ref h11, .ref h3, .ref h12, .ref h4, .ref h13, .int 0, .null])), (h1, .inr (9, [.ref h14, .int 0, .int 0, .int 0])), (h2, .inr (2, [.ref h15, .ref h16, .int 0, .int 0, .long 0, .long 0, .long 0, .long 0, .long 0, .int 0, .int 0, .int 1])), (h3, .inr (4, [.ref h17, .ref h18, .ref h19, .int 0, .int 0])), (h4, .inr (0, [.ref h20, .ref h21, .int 0, .int 0, .int 0]))] sz)) (va_Qi (fun (r : Int32) (u : va_W) => (r = 0 ∧ p0 = 0) ∨ (r = 0 ∧ p0 = 1) ∨ (r = 0 ∧ p0 = 2) ∨ (r = 0 ∧ p0 = 3) ∨ (r = 0 ∧ p0 = 4) ∨ (r = 0 ∧ p0 = 5) ∨ (r = 0 ∧ p0 = 6) ∨ (r = 0 ∧ p0 = 7) ∨ (r = (-1) ∧ ((p0 : Int32).toInt < 0 ∨ 7 < (p0 : Int32).toInt))) (BW (dC, dI) (va_A [(h0, .inr (11, [.ref h1, .ref h2, .ref h5, .ref h6, .ref h7, .ref h8, .ref h9, .ref h10, .ref h11, .ref h3, .ref h12, .ref h4, .ref h13, .int 0, .null])), (h1, .inr (9, [.ref h14, .int 0, .int 0, .int 0])), (h2, .inr (2, [.ref h15, .ref h16, .int 0, .int 0, .long 0, .long 0, .long 0, .long 0, .long 0, .int 0, .int 0, .int 1])), (h3, .inr (4, [.ref h17, .ref h18, .ref h19, .int 0, .int 0])), (h4, .inr (0, [.ref h20, .ref h21, .int 0, .int 0, .int 0]))] sz)) (va_A [(h0, .inr (11, [.ref h1, .ref h2, .ref h5, .ref h6, .ref h7, .ref h8, .ref h9, .ref h10, .ref h11, .ref h3, .ref h12, .ref h4, .ref h13, .int 0, .null])), (h1, .inr (9, [.ref h14, .int 0, .int 0, .int 0])), (h2, .inr (2, [.ref h15, .ref h16, .int 0, .int 0, .long 0, .long 0, .long 0, .long 0, .long 0, .int 0, .int 0, .int 1])), (h3, .inr (4, [.ref h17, .ref h18, .ref h19, .int 0, .int 0])), (h4, .inr (0, [.ref h20, .ref h21, .int 0, .int 0, .int 0]))] sz)) 0 0 (va_A [(h0, .inr (11, [.ref h1, .ref h2, .ref h5, .ref h6, .ref h7, .ref h8, .ref h9, .ref h10, .ref h11, .ref h3, .ref h12, .ref h4, .ref h13, .int 0, .null])), (h1, .inr (9, [.ref h14, .int 0, .int 0, .int 0])), (h2, .inr (2, [.ref h15, .ref h16, .int 0, .int 0, .long 0, .long 0, .long 0, .long 0, .long 0, .int 0, .int 0, .int 1])), (h3, .inr (4, [.ref h17, .ref h18, .ref h19, .int 0, .int 0])), (h4, .inr (0, [.ref h20, .ref h21, .int 0, .int 0, .int 0]))] sz) := by
  refine Met.ofW (cc := cX11_count) (maxL := 2) (ret := (some .int)) (by decide) rfl ?_
  intro p e s m args below meth c s₁ B hml hv
  obtain ⟨rfl, hsz, hP, hK, hD0, hO⟩ := hv
  have hx := B.exec
  have hb := B.bytes
  have hr := B.returns
  have hts := atoms_spec (ws := wsX11_count) B.pre
  have hown : s.vm.findClass RX11 = some m.cls := findClass_of_methodNamed B.named
  have hlocks := B.notSynchronized
  subst hsz
  have hD := hD0.self (sz := s.heap.size)
  generalize hAe : va_A [(h0, .inr (11, [.ref h1, .ref h2, .ref h5, .ref h6, .ref h7, .ref h8, .ref h9, .ref h10, .ref h11, .ref h3, .ref h12, .ref h4, .ref h13, .int 0, .null])), (h1, .inr (9, [.ref h14, .int 0, .int 0, .int 0])), (h2, .inr (2, [.ref h15, .ref h16, .int 0, .int 0, .long 0, .long 0, .long 0, .long 0, .long 0, .int 0, .int 0, .int 1])), (h3, .inr (4, [.ref h17, .ref h18, .ref h19, .int 0, .int 0])), (h4, .inr (0, [.ref h20, .ref h21, .int 0, .int 0, .int 0]))] s.heap.size = A at hD ⊢
  have hA : ∀ q : Nat, s.heap.size ≤ q → A q := fun q h => by rw [← hAe]; exact Or.inr h
  have hS : va_S A s.heap s.heap [] := va_S.rf
  have hP : va_P (dC, dI) vwCl [(h0, .inr (11, [.ref h1, .ref h2, .ref h5, .ref h6, .ref h7, .ref h8, .ref h9, .ref h10, .ref h11, .ref h3, .ref h12, .ref h4, .ref h13, .int 0, .null])), (h1, .inr (9, [.ref h14, .int 0, .int 0, .int 0])), (h2, .inr (2, [.ref h15, .ref h16, .int 0, .int 0, .long 0, .long 0, .long 0, .long 0, .long 0, .int 0, .int 0, .int 1])), (h3, .inr (4, [.ref h17, .ref h18, .ref h19, .int 0, .int 0])), (h4, .inr (0, [.ref h20, .ref h21, .int 0, .int 0, .int 0]))] s.heap := hP
  have hl := lv_entry ([.ref h0, .int p0]) (n := 2) (Nat.le_of_ble_eq_true rfl)
  rw [lg_entry_eq]
  generalize (lg_sl ([.ref h0, .int p0]) ++ List.replicate (2 - (lg_sl ([.ref h0, .int p0])).length) Slot.unset).toArray = ls at hl ⊢
  have hl : lv_has ls 2 [(0, .ref h0), (1, .int p0)] := hl
  refine w_gen hP hS (fun H locs hP hS => ?_)
  refine lv_iload_n hx hb dX11_count_0 rfl (lv_at hl 1 rfl) ?_
  have h_1 : p0 = 0 ∨ p0 = 1 ∨ p0 = 2 ∨ p0 = 3 ∨ p0 = 4 ∨ p0 = 5 ∨ p0 = 6 ∨ p0 = 7 ∨ ((p0).toInt < 0 ∨ 7 < (p0).toInt) := by
    have z0 : (0 : Int32).toInt = 0 := by decide
    have z1 : (1 : Int32).toInt = 1 := by decide
    have z2 : (2 : Int32).toInt = 2 := by decide
    have z3 : (3 : Int32).toInt = 3 := by decide
    have z4 : (4 : Int32).toInt = 4 := by decide
    have z5 : (5 : Int32).toInt = 5 := by decide
    have z6 : (6 : Int32).toInt = 6 := by decide
    have z7 : (7 : Int32).toInt = 7 := by decide
    rcases Int.lt_or_le (p0).toInt 0 with q | q
    · exact Or.inr (Or.inr (Or.inr (Or.inr (Or.inr (Or.inr (Or.inr (Or.inr (Or.inl q))))))))
    rcases Int.lt_or_le 7 (p0).toInt with q2 | q2
    · exact Or.inr (Or.inr (Or.inr (Or.inr (Or.inr (Or.inr (Or.inr (Or.inr (Or.inr q2))))))))
    by_cases y0 : (p0).toInt = 0
    · exact Or.inl (Int32.toInt_inj.mp (y0.trans z0.symm))
    by_cases y1 : (p0).toInt = 1
    · exact Or.inr (Or.inl (Int32.toInt_inj.mp (y1.trans z1.symm)))
    by_cases y2 : (p0).toInt = 2
    · exact Or.inr (Or.inr (Or.inl (Int32.toInt_inj.mp (y2.trans z2.symm))))
    by_cases y3 : (p0).toInt = 3
    · exact Or.inr (Or.inr (Or.inr (Or.inl (Int32.toInt_inj.mp (y3.trans z3.symm)))))
    by_cases y4 : (p0).toInt = 4
    · exact Or.inr (Or.inr (Or.inr (Or.inr (Or.inl (Int32.toInt_inj.mp (y4.trans z4.symm))))))
    by_cases y5 : (p0).toInt = 5
    · exact Or.inr (Or.inr (Or.inr (Or.inr (Or.inr (Or.inl (Int32.toInt_inj.mp (y5.trans z5.symm)))))))
    by_cases y6 : (p0).toInt = 6
    · exact Or.inr (Or.inr (Or.inr (Or.inr (Or.inr (Or.inr (Or.inl (Int32.toInt_inj.mp (y6.trans z6.symm))))))))
    by_cases y7 : (p0).toInt = 7
    · exact Or.inr (Or.inr (Or.inr (Or.inr (Or.inr (Or.inr (Or.inr (Or.inl (Int32.toInt_inj.mp (y7.trans z7.symm)))))))))
    exact absurd trivial (fun _ => by omega)
  rcases h_1 with c_2 | c_3 | c_4 | c_5 | c_6 | c_7 | c_8 | c_9 | c_10
  · refine w_top (v' := .int 0) (congrArg Value.int c_2) ?_
    refine lv_tableIn (off := 47) (tgt := 48) hx hb dX11_count_1 (by decide) (by decide) (by decide) (by decide) ?_
    refine lv_aload_n hx hb dX11_count_48 rfl (lv_at hl 0 rfl) ?_
    refine va_get (D := (dC, dI)) (tys := TY cB cI cJ cZ cM) (ci := 11) (v := .ref h2) (C := RX11) (T := TX11) (N := 15) hx hb hts in_X11_count_X11 hown hK hP 0 rfl rfl 1 (by decide) (hts (.fieldLink RX11 21 "OnlyHalves" "market" "LOnlyHalves$Market;") (by decide +kernel)) (fun _ h9 => h9) rfl dX11_count_49 ?_
    refine va_get (D := (dC, dI)) (tys := TY cB cI cJ cZ cM) (ci := 2) (v := .int 0) (C := RX2) (T := TX2) (N := 12) hx hb hts in_X11_count_X2 hown hK hP 2 rfl rfl 2 (by decide) (hts (.fieldLink RX11 268 "OnlyHalves$Market" "people" "I") (by decide +kernel)) (fun _ h9 => h9) rfl dX11_count_52 ?_
    have hP9 := hP
    exact W.iret (v := 0) hx hb hr (fun t ht hW => ⟨⟨0, [(h0, .inr (11, [.ref h1, .ref h2, .ref h5, .ref h6, .ref h7, .ref h8, .ref h9, .ref h10, .ref h11, .ref h3, .ref h12, .ref h4, .ref h13, .int 0, .null])), (h1, .inr (9, [.ref h14, .int 0, .int 0, .int 0])), (h2, .inr (2, [.ref h15, .ref h16, .int 0, .int 0, .long 0, .long 0, .long 0, .long 0, .long 0, .int 0, .int 0, .int 1])), (h3, .inr (4, [.ref h17, .ref h18, .ref h19, .int 0, .int 0])), (h4, .inr (0, [.ref h20, .ref h21, .int 0, .int 0, .int 0]))], rfl, Or.inl (⟨rfl, c_2⟩), by rw [ht]; exact hP9, hD⟩, hS.F ht⟩) hS.2.2 dX11_count_55
  · refine w_top (v' := .int 1) (congrArg Value.int c_3) ?_
    refine lv_tableIn (off := 55) (tgt := 56) hx hb dX11_count_1 (by decide) (by decide) (by decide) (by decide) ?_
    refine lv_aload_n hx hb dX11_count_56 rfl (lv_at hl 0 rfl) ?_
    refine va_get (D := (dC, dI)) (tys := TY cB cI cJ cZ cM) (ci := 11) (v := .ref h2) (C := RX11) (T := TX11) (N := 15) hx hb hts in_X11_count_X11 hown hK hP 0 rfl rfl 1 (by decide) (hts (.fieldLink RX11 21 "OnlyHalves" "market" "LOnlyHalves$Market;") (by decide +kernel)) (fun _ h9 => h9) rfl dX11_count_57 ?_
    refine va_get (D := (dC, dI)) (tys := TY cB cI cJ cZ cM) (ci := 2) (v := .int 0) (C := RX2) (T := TX2) (N := 12) hx hb hts in_X11_count_X2 hown hK hP 2 rfl rfl 3 (by decide) (hts (.fieldLink RX11 182 "OnlyHalves$Market" "things" "I") (by decide +kernel)) (fun _ h9 => h9) rfl dX11_count_60 ?_
    have hP9 := hP
    exact W.iret (v := 0) hx hb hr (fun t ht hW => ⟨⟨0, [(h0, .inr (11, [.ref h1, .ref h2, .ref h5, .ref h6, .ref h7, .ref h8, .ref h9, .ref h10, .ref h11, .ref h3, .ref h12, .ref h4, .ref h13, .int 0, .null])), (h1, .inr (9, [.ref h14, .int 0, .int 0, .int 0])), (h2, .inr (2, [.ref h15, .ref h16, .int 0, .int 0, .long 0, .long 0, .long 0, .long 0, .long 0, .int 0, .int 0, .int 1])), (h3, .inr (4, [.ref h17, .ref h18, .ref h19, .int 0, .int 0])), (h4, .inr (0, [.ref h20, .ref h21, .int 0, .int 0, .int 0]))], rfl, Or.inr (Or.inl (⟨rfl, c_3⟩)), by rw [ht]; exact hP9, hD⟩, hS.F ht⟩) hS.2.2 dX11_count_63
  · refine w_top (v' := .int 2) (congrArg Value.int c_4) ?_
    refine lv_tableIn (off := 63) (tgt := 64) hx hb dX11_count_1 (by decide) (by decide) (by decide) (by decide) ?_
    refine lv_aload_n hx hb dX11_count_64 rfl (lv_at hl 0 rfl) ?_
    refine va_get (D := (dC, dI)) (tys := TY cB cI cJ cZ cM) (ci := 11) (v := .ref h2) (C := RX11) (T := TX11) (N := 15) hx hb hts in_X11_count_X11 hown hK hP 0 rfl rfl 1 (by decide) (hts (.fieldLink RX11 21 "OnlyHalves" "market" "LOnlyHalves$Market;") (by decide +kernel)) (fun _ h9 => h9) rfl dX11_count_65 ?_
    refine k_iV (As := []) (rest := []) (wr := [(h0, .inr (11, [.ref h1, .ref h2, .ref h5, .ref h6, .ref h7, .ref h8, .ref h9, .ref h10, .ref h11, .ref h3, .ref h12, .ref h4, .ref h13, .int 0, .null])), (h1, .inr (9, [.ref h14, .int 0, .int 0, .int 0])), (h3, .inr (4, [.ref h17, .ref h18, .ref h19, .int 0, .int 0])), (h4, .inr (0, [.ref h20, .ref h21, .int 0, .int 0, .int 0]))]) ⟨hx, hb, hml, hown, hts⟩ (k_X2_togetherBits l dC dI cB cI cJ cZ cM h2 h15 h16 H.size ) (cwV 0 hts gX11_count_X2_togetherBits rfl rfl rfl (by decide +kernel) ⟨Nat.le_of_ble_eq_true rfl, Nat.le_of_ble_eq_true rfl⟩) hK hO hP hD hS hA [2] [0, 1, 3, 4] rfl rfl rfl (by decide) (by decide) (by decide) 2 0 rfl rfl rfl hl.1 rfl (Nat.le_of_ble_eq_true rfl) dX11_count_68 ⟨Nat.le_of_ble_eq_true rfl, Nat.le_of_ble_eq_true rfl⟩ (fun r_11 u_13 H locs hw_14 hP hD hS => ?_)
    rcases hw_14 with ⟨rfl, rfl⟩
    have hP : va_P (dC, dI) vwCl [(h0, .inr (11, [.ref h1, .ref h2, .ref h5, .ref h6, .ref h7, .ref h8, .ref h9, .ref h10, .ref h11, .ref h3, .ref h12, .ref h4, .ref h13, .int 0, .null])), (h1, .inr (9, [.ref h14, .int 0, .int 0, .int 0])), (h3, .inr (4, [.ref h17, .ref h18, .ref h19, .int 0, .int 0])), (h4, .inr (0, [.ref h20, .ref h21, .int 0, .int 0, .int 0])), (h2, .inr (2, [.ref h15, .ref h16, .int 0, .int 0, .long 0, .long 0, .long 0, .long 0, .long 0, .int 0, .int 0, .int 1]))] H := hP
    have hD : va_D A [(h0, .inr (11, [.ref h1, .ref h2, .ref h5, .ref h6, .ref h7, .ref h8, .ref h9, .ref h10, .ref h11, .ref h3, .ref h12, .ref h4, .ref h13, .int 0, .null])), (h1, .inr (9, [.ref h14, .int 0, .int 0, .int 0])), (h3, .inr (4, [.ref h17, .ref h18, .ref h19, .int 0, .int 0])), (h4, .inr (0, [.ref h20, .ref h21, .int 0, .int 0, .int 0])), (h2, .inr (2, [.ref h15, .ref h16, .int 0, .int 0, .long 0, .long 0, .long 0, .long 0, .long 0, .int 0, .int 0, .int 1]))] := hD
    have hP9 := hP
    exact W.iret (v := 0) hx hb hr (fun t ht hW => ⟨⟨0, [(h0, .inr (11, [.ref h1, .ref h2, .ref h5, .ref h6, .ref h7, .ref h8, .ref h9, .ref h10, .ref h11, .ref h3, .ref h12, .ref h4, .ref h13, .int 0, .null])), (h1, .inr (9, [.ref h14, .int 0, .int 0, .int 0])), (h3, .inr (4, [.ref h17, .ref h18, .ref h19, .int 0, .int 0])), (h4, .inr (0, [.ref h20, .ref h21, .int 0, .int 0, .int 0])), (h2, .inr (2, [.ref h15, .ref h16, .int 0, .int 0, .long 0, .long 0, .long 0, .long 0, .long 0, .int 0, .int 0, .int 1]))], rfl, Or.inr (Or.inr (Or.inl (⟨rfl, c_4⟩))), by rw [ht]; exact hP9, hD⟩, hS.F ht⟩) hS.2.2 dX11_count_71
  · refine w_top (v' := .int 3) (congrArg Value.int c_5) ?_
    refine lv_tableIn (off := 71) (tgt := 72) hx hb dX11_count_1 (by decide) (by decide) (by decide) (by decide) ?_
    refine lv_aload_n hx hb dX11_count_72 rfl (lv_at hl 0 rfl) ?_
    refine va_get (D := (dC, dI)) (tys := TY cB cI cJ cZ cM) (ci := 11) (v := .ref h3) (C := RX11) (T := TX11) (N := 15) hx hb hts in_X11_count_X11 hown hK hP 0 rfl rfl 9 (by decide) (hts (.fieldLink RX11 69 "OnlyHalves" "past" "LOnlyHalves$Past;") (by decide +kernel)) (fun _ h9 => h9) rfl dX11_count_73 ?_
    refine k_iV (As := []) (rest := []) (wr := [(h0, .inr (11, [.ref h1, .ref h2, .ref h5, .ref h6, .ref h7, .ref h8, .ref h9, .ref h10, .ref h11, .ref h3, .ref h12, .ref h4, .ref h13, .int 0, .null])), (h1, .inr (9, [.ref h14, .int 0, .int 0, .int 0])), (h2, .inr (2, [.ref h15, .ref h16, .int 0, .int 0, .long 0, .long 0, .long 0, .long 0, .long 0, .int 0, .int 0, .int 1])), (h4, .inr (0, [.ref h20, .ref h21, .int 0, .int 0, .int 0]))]) ⟨hx, hb, hml, hown, hts⟩ (k_X4_size l dC dI cB cI cJ cZ cM h3 h17 h18 h19 H.size ) (cwV 0 hts gX11_count_X4_size rfl rfl rfl (by decide +kernel) ⟨Nat.le_of_ble_eq_true rfl, Nat.le_of_ble_eq_true rfl⟩) hK hO hP hD hS hA [3] [0, 1, 2, 4] rfl rfl rfl (by decide) (by decide) (by decide) 4 0 rfl rfl rfl hl.1 rfl (Nat.le_of_ble_eq_true rfl) dX11_count_76 ⟨Nat.le_of_ble_eq_true rfl, Nat.le_of_ble_eq_true rfl⟩ (fun r_15 u_17 H locs hw_18 hP hD hS => ?_)
    rcases hw_18 with ⟨rfl, rfl⟩
    have hP : va_P (dC, dI) vwCl [(h0, .inr (11, [.ref h1, .ref h2, .ref h5, .ref h6, .ref h7, .ref h8, .ref h9, .ref h10, .ref h11, .ref h3, .ref h12, .ref h4, .ref h13, .int 0, .null])), (h1, .inr (9, [.ref h14, .int 0, .int 0, .int 0])), (h2, .inr (2, [.ref h15, .ref h16, .int 0, .int 0, .long 0, .long 0, .long 0, .long 0, .long 0, .int 0, .int 0, .int 1])), (h4, .inr (0, [.ref h20, .ref h21, .int 0, .int 0, .int 0])), (h3, .inr (4, [.ref h17, .ref h18, .ref h19, .int 0, .int 0]))] H := hP
    have hD : va_D A [(h0, .inr (11, [.ref h1, .ref h2, .ref h5, .ref h6, .ref h7, .ref h8, .ref h9, .ref h10, .ref h11, .ref h3, .ref h12, .ref h4, .ref h13, .int 0, .null])), (h1, .inr (9, [.ref h14, .int 0, .int 0, .int 0])), (h2, .inr (2, [.ref h15, .ref h16, .int 0, .int 0, .long 0, .long 0, .long 0, .long 0, .long 0, .int 0, .int 0, .int 1])), (h4, .inr (0, [.ref h20, .ref h21, .int 0, .int 0, .int 0])), (h3, .inr (4, [.ref h17, .ref h18, .ref h19, .int 0, .int 0]))] := hD
    have hP9 := hP
    exact W.iret (v := 0) hx hb hr (fun t ht hW => ⟨⟨0, [(h0, .inr (11, [.ref h1, .ref h2, .ref h5, .ref h6, .ref h7, .ref h8, .ref h9, .ref h10, .ref h11, .ref h3, .ref h12, .ref h4, .ref h13, .int 0, .null])), (h1, .inr (9, [.ref h14, .int 0, .int 0, .int 0])), (h2, .inr (2, [.ref h15, .ref h16, .int 0, .int 0, .long 0, .long 0, .long 0, .long 0, .long 0, .int 0, .int 0, .int 1])), (h4, .inr (0, [.ref h20, .ref h21, .int 0, .int 0, .int 0])), (h3, .inr (4, [.ref h17, .ref h18, .ref h19, .int 0, .int 0]))], rfl, Or.inr (Or.inr (Or.inr (Or.inl (⟨rfl, c_5⟩)))), by rw [ht]; exact hP9, hD⟩, hS.F ht⟩) hS.2.2 dX11_count_79
  · refine w_top (v' := .int 4) (congrArg Value.int c_6) ?_
    refine lv_tableIn (off := 79) (tgt := 80) hx hb dX11_count_1 (by decide) (by decide) (by decide) (by decide) ?_
    refine lv_aload_n hx hb dX11_count_80 rfl (lv_at hl 0 rfl) ?_
    refine va_get (D := (dC, dI)) (tys := TY cB cI cJ cZ cM) (ci := 11) (v := .ref h4) (C := RX11) (T := TX11) (N := 15) hx hb hts in_X11_count_X11 hown hK hP 0 rfl rfl 11 (by decide) (hts (.fieldLink RX11 83 "OnlyHalves" "book" "LOnlyHalves$Book;") (by decide +kernel)) (fun _ h9 => h9) rfl dX11_count_81 ?_
    refine k_iV (As := []) (rest := []) (wr := [(h0, .inr (11, [.ref h1, .ref h2, .ref h5, .ref h6, .ref h7, .ref h8, .ref h9, .ref h10, .ref h11, .ref h3, .ref h12, .ref h4, .ref h13, .int 0, .null])), (h1, .inr (9, [.ref h14, .int 0, .int 0, .int 0])), (h2, .inr (2, [.ref h15, .ref h16, .int 0, .int 0, .long 0, .long 0, .long 0, .long 0, .long 0, .int 0, .int 0, .int 1])), (h3, .inr (4, [.ref h17, .ref h18, .ref h19, .int 0, .int 0]))]) ⟨hx, hb, hml, hown, hts⟩ (k_X0_size l dC dI cB cI cJ cZ cM h4 h20 h21 H.size ) (cwV 0 hts gX11_count_X0_size rfl rfl rfl (by decide +kernel) ⟨Nat.le_of_ble_eq_true rfl, Nat.le_of_ble_eq_true rfl⟩) hK hO hP hD hS hA [4] [0, 1, 2, 3] rfl rfl rfl (by decide) (by decide) (by decide) 0 0 rfl rfl rfl hl.1 rfl (Nat.le_of_ble_eq_true rfl) dX11_count_84 ⟨Nat.le_of_ble_eq_true rfl, Nat.le_of_ble_eq_true rfl⟩ (fun r_19 u_21 H locs hw_22 hP hD hS => ?_)
    rcases hw_22 with ⟨rfl, rfl⟩
    have hP : va_P (dC, dI) vwCl [(h0, .inr (11, [.ref h1, .ref h2, .ref h5, .ref h6, .ref h7, .ref h8, .ref h9, .ref h10, .ref h11, .ref h3, .ref h12, .ref h4, .ref h13, .int 0, .null])), (h1, .inr (9, [.ref h14, .int 0, .int 0, .int 0])), (h2, .inr (2, [.ref h15, .ref h16, .int 0, .int 0, .long 0, .long 0, .long 0, .long 0, .long 0, .int 0, .int 0, .int 1])), (h3, .inr (4, [.ref h17, .ref h18, .ref h19, .int 0, .int 0])), (h4, .inr (0, [.ref h20, .ref h21, .int 0, .int 0, .int 0]))] H := hP
    have hD : va_D A [(h0, .inr (11, [.ref h1, .ref h2, .ref h5, .ref h6, .ref h7, .ref h8, .ref h9, .ref h10, .ref h11, .ref h3, .ref h12, .ref h4, .ref h13, .int 0, .null])), (h1, .inr (9, [.ref h14, .int 0, .int 0, .int 0])), (h2, .inr (2, [.ref h15, .ref h16, .int 0, .int 0, .long 0, .long 0, .long 0, .long 0, .long 0, .int 0, .int 0, .int 1])), (h3, .inr (4, [.ref h17, .ref h18, .ref h19, .int 0, .int 0])), (h4, .inr (0, [.ref h20, .ref h21, .int 0, .int 0, .int 0]))] := hD
    have hP9 := hP
    exact W.iret (v := 0) hx hb hr (fun t ht hW => ⟨⟨0, [(h0, .inr (11, [.ref h1, .ref h2, .ref h5, .ref h6, .ref h7, .ref h8, .ref h9, .ref h10, .ref h11, .ref h3, .ref h12, .ref h4, .ref h13, .int 0, .null])), (h1, .inr (9, [.ref h14, .int 0, .int 0, .int 0])), (h2, .inr (2, [.ref h15, .ref h16, .int 0, .int 0, .long 0, .long 0, .long 0, .long 0, .long 0, .int 0, .int 0, .int 1])), (h3, .inr (4, [.ref h17, .ref h18, .ref h19, .int 0, .int 0])), (h4, .inr (0, [.ref h20, .ref h21, .int 0, .int 0, .int 0]))], rfl, Or.inr (Or.inr (Or.inr (Or.inr (Or.inl (⟨rfl, c_6⟩))))), by rw [ht]; exact hP9, hD⟩, hS.F ht⟩) hS.2.2 dX11_count_87
  · refine w_top (v' := .int 5) (congrArg Value.int c_7) ?_
    refine lv_tableIn (off := 87) (tgt := 88) hx hb dX11_count_1 (by decide) (by decide) (by decide) (by decide) ?_
    refine lv_aload_n hx hb dX11_count_88 rfl (lv_at hl 0 rfl) ?_
    refine va_get (D := (dC, dI)) (tys := TY cB cI cJ cZ cM) (ci := 11) (v := .ref h2) (C := RX11) (T := TX11) (N := 15) hx hb hts in_X11_count_X11 hown hK hP 0 rfl rfl 1 (by decide) (hts (.fieldLink RX11 21 "OnlyHalves" "market" "LOnlyHalves$Market;") (by decide +kernel)) (fun _ h9 => h9) rfl dX11_count_89 ?_
    refine k_iV (As := []) (rest := []) (wr := [(h0, .inr (11, [.ref h1, .ref h2, .ref h5, .ref h6, .ref h7, .ref h8, .ref h9, .ref h10, .ref h11, .ref h3, .ref h12, .ref h4, .ref h13, .int 0, .null])), (h1, .inr (9, [.ref h14, .int 0, .int 0, .int 0])), (h3, .inr (4, [.ref h17, .ref h18, .ref h19, .int 0, .int 0])), (h4, .inr (0, [.ref h20, .ref h21, .int 0, .int 0, .int 0]))]) ⟨hx, hb, hml, hown, hts⟩ (k_X2_coinOfAll l dC dI cB cI cJ cZ cM h2 h15 h16 H.size ) (cwV 0 hts gX11_count_X2_coinOfAll rfl rfl rfl (by decide +kernel) ⟨Nat.le_of_ble_eq_true rfl, Nat.le_of_ble_eq_true rfl⟩) hK hO hP hD hS hA [2] [0, 1, 3, 4] rfl rfl rfl (by decide) (by decide) (by decide) 2 0 rfl rfl rfl hl.1 rfl (Nat.le_of_ble_eq_true rfl) dX11_count_92 ⟨Nat.le_of_ble_eq_true rfl, Nat.le_of_ble_eq_true rfl⟩ (fun r_23 u_25 H locs hw_26 hP hD hS => ?_)
    rcases hw_26 with ⟨rfl, rfl⟩
    have hP : va_P (dC, dI) vwCl [(h0, .inr (11, [.ref h1, .ref h2, .ref h5, .ref h6, .ref h7, .ref h8, .ref h9, .ref h10, .ref h11, .ref h3, .ref h12, .ref h4, .ref h13, .int 0, .null])), (h1, .inr (9, [.ref h14, .int 0, .int 0, .int 0])), (h3, .inr (4, [.ref h17, .ref h18, .ref h19, .int 0, .int 0])), (h4, .inr (0, [.ref h20, .ref h21, .int 0, .int 0, .int 0])), (h2, .inr (2, [.ref h15, .ref h16, .int 0, .int 0, .long 0, .long 0, .long 0, .long 0, .long 0, .int 0, .int 0, .int 1]))] H := hP
    have hD : va_D A [(h0, .inr (11, [.ref h1, .ref h2, .ref h5, .ref h6, .ref h7, .ref h8, .ref h9, .ref h10, .ref h11, .ref h3, .ref h12, .ref h4, .ref h13, .int 0, .null])), (h1, .inr (9, [.ref h14, .int 0, .int 0, .int 0])), (h3, .inr (4, [.ref h17, .ref h18, .ref h19, .int 0, .int 0])), (h4, .inr (0, [.ref h20, .ref h21, .int 0, .int 0, .int 0])), (h2, .inr (2, [.ref h15, .ref h16, .int 0, .int 0, .long 0, .long 0, .long 0, .long 0, .long 0, .int 0, .int 0, .int 1]))] := hD
    have hP9 := hP
    exact W.iret (v := 0) hx hb hr (fun t ht hW => ⟨⟨0, [(h0, .inr (11, [.ref h1, .ref h2, .ref h5, .ref h6, .ref h7, .ref h8, .ref h9, .ref h10, .ref h11, .ref h3, .ref h12, .ref h4, .ref h13, .int 0, .null])), (h1, .inr (9, [.ref h14, .int 0, .int 0, .int 0])), (h3, .inr (4, [.ref h17, .ref h18, .ref h19, .int 0, .int 0])), (h4, .inr (0, [.ref h20, .ref h21, .int 0, .int 0, .int 0])), (h2, .inr (2, [.ref h15, .ref h16, .int 0, .int 0, .long 0, .long 0, .long 0, .long 0, .long 0, .int 0, .int 0, .int 1]))], rfl, Or.inr (Or.inr (Or.inr (Or.inr (Or.inr (Or.inl (⟨rfl, c_7⟩)))))), by rw [ht]; exact hP9, hD⟩, hS.F ht⟩) hS.2.2 dX11_count_95
  · refine w_top (v' := .int 6) (congrArg Value.int c_8) ?_
    refine lv_tableIn (off := 95) (tgt := 96) hx hb dX11_count_1 (by decide) (by decide) (by decide) (by decide) ?_
    refine lv_aload_n hx hb dX11_count_96 rfl (lv_at hl 0 rfl) ?_
    refine va_get (D := (dC, dI)) (tys := TY cB cI cJ cZ cM) (ci := 11) (v := .int 0) (C := RX11) (T := TX11) (N := 15) hx hb hts in_X11_count_X11 hown hK hP 0 rfl rfl 13 (by decide) (hts (.fieldLink RX11 420 "OnlyHalves" "numbersTold" "I") (by decide +kernel)) (fun _ h9 => h9) rfl dX11_count_97 ?_
    have hP9 := hP
    exact W.iret (v := 0) hx hb hr (fun t ht hW => ⟨⟨0, [(h0, .inr (11, [.ref h1, .ref h2, .ref h5, .ref h6, .ref h7, .ref h8, .ref h9, .ref h10, .ref h11, .ref h3, .ref h12, .ref h4, .ref h13, .int 0, .null])), (h1, .inr (9, [.ref h14, .int 0, .int 0, .int 0])), (h2, .inr (2, [.ref h15, .ref h16, .int 0, .int 0, .long 0, .long 0, .long 0, .long 0, .long 0, .int 0, .int 0, .int 1])), (h3, .inr (4, [.ref h17, .ref h18, .ref h19, .int 0, .int 0])), (h4, .inr (0, [.ref h20, .ref h21, .int 0, .int 0, .int 0]))], rfl, Or.inr (Or.inr (Or.inr (Or.inr (Or.inr (Or.inr (Or.inl (⟨rfl, c_8⟩))))))), by rw [ht]; exact hP9, hD⟩, hS.F ht⟩) hS.2.2 dX11_count_100
  · refine w_top (v' := .int 7) (congrArg Value.int c_9) ?_
    refine lv_tableIn (off := 100) (tgt := 101) hx hb dX11_count_1 (by decide) (by decide) (by decide) (by decide) ?_
    refine lv_aload_n hx hb dX11_count_101 rfl (lv_at hl 0 rfl) ?_
    refine va_get (D := (dC, dI)) (tys := TY cB cI cJ cZ cM) (ci := 11) (v := .ref h1) (C := RX11) (T := TX11) (N := 15) hx hb hts in_X11_count_X11 hown hK hP 0 rfl rfl 0 (by decide) (hts (.fieldLink RX11 12 "OnlyHalves" "text" "LOnlyHalves$Text;") (by decide +kernel)) (fun _ h9 => h9) rfl dX11_count_102 ?_
    refine k_iV (As := []) (rest := []) (wr := [(h0, .inr (11, [.ref h1, .ref h2, .ref h5, .ref h6, .ref h7, .ref h8, .ref h9, .ref h10, .ref h11, .ref h3, .ref h12, .ref h4, .ref h13, .int 0, .null])), (h2, .inr (2, [.ref h15, .ref h16, .int 0, .int 0, .long 0, .long 0, .long 0, .long 0, .long 0, .int 0, .int 0, .int 1])), (h3, .inr (4, [.ref h17, .ref h18, .ref h19, .int 0, .int 0])), (h4, .inr (0, [.ref h20, .ref h21, .int 0, .int 0, .int 0]))]) ⟨hx, hb, hml, hown, hts⟩ (k_X9_length_v2 l dC dI cB cI cJ cZ cM h1 h14 H.size ) (cwV 0 hts gX11_count_X9_length rfl rfl rfl (by decide +kernel) ⟨Nat.le_of_ble_eq_true rfl, Nat.le_of_ble_eq_true rfl⟩) hK hO hP hD hS hA [1] [0, 2, 3, 4] rfl rfl rfl (by decide) (by decide) (by decide) 9 0 rfl rfl rfl hl.1 rfl (Nat.le_of_ble_eq_true rfl) dX11_count_105 ⟨Nat.le_of_ble_eq_true rfl, Nat.le_of_ble_eq_true rfl⟩ (fun r_27 u_29 H locs hw_30 hP hD hS => ?_)
    rcases hw_30 with ⟨rfl, rfl⟩
    have hP : va_P (dC, dI) vwCl [(h0, .inr (11, [.ref h1, .ref h2, .ref h5, .ref h6, .ref h7, .ref h8, .ref h9, .ref h10, .ref h11, .ref h3, .ref h12, .ref h4, .ref h13, .int 0, .null])), (h2, .inr (2, [.ref h15, .ref h16, .int 0, .int 0, .long 0, .long 0, .long 0, .long 0, .long 0, .int 0, .int 0, .int 1])), (h3, .inr (4, [.ref h17, .ref h18, .ref h19, .int 0, .int 0])), (h4, .inr (0, [.ref h20, .ref h21, .int 0, .int 0, .int 0])), (h1, .inr (9, [.ref h14, .int 0, .int 0, .int 0]))] H := hP
    have hD : va_D A [(h0, .inr (11, [.ref h1, .ref h2, .ref h5, .ref h6, .ref h7, .ref h8, .ref h9, .ref h10, .ref h11, .ref h3, .ref h12, .ref h4, .ref h13, .int 0, .null])), (h2, .inr (2, [.ref h15, .ref h16, .int 0, .int 0, .long 0, .long 0, .long 0, .long 0, .long 0, .int 0, .int 0, .int 1])), (h3, .inr (4, [.ref h17, .ref h18, .ref h19, .int 0, .int 0])), (h4, .inr (0, [.ref h20, .ref h21, .int 0, .int 0, .int 0])), (h1, .inr (9, [.ref h14, .int 0, .int 0, .int 0]))] := hD
    have hP9 := hP
    exact W.iret (v := 0) hx hb hr (fun t ht hW => ⟨⟨0, [(h0, .inr (11, [.ref h1, .ref h2, .ref h5, .ref h6, .ref h7, .ref h8, .ref h9, .ref h10, .ref h11, .ref h3, .ref h12, .ref h4, .ref h13, .int 0, .null])), (h2, .inr (2, [.ref h15, .ref h16, .int 0, .int 0, .long 0, .long 0, .long 0, .long 0, .long 0, .int 0, .int 0, .int 1])), (h3, .inr (4, [.ref h17, .ref h18, .ref h19, .int 0, .int 0])), (h4, .inr (0, [.ref h20, .ref h21, .int 0, .int 0, .int 0])), (h1, .inr (9, [.ref h14, .int 0, .int 0, .int 0]))], rfl, Or.inr (Or.inr (Or.inr (Or.inr (Or.inr (Or.inr (Or.inr (Or.inl (⟨rfl, c_9⟩)))))))), by rw [ht]; exact hP9, hD⟩, hS.F ht⟩) hS.2.2 dX11_count_108
  · refine lv_tableOut (tgt := 109) hx hb dX11_count_1 c_10 (by decide) ?_
    refine lv_iconst (v := (-1)) hx hb dX11_count_109 (by decide) ?_
    have hP9 := hP
    exact W.iret (v := (-1)) hx hb hr (fun t ht hW => ⟨⟨(-1), [(h0, .inr (11, [.ref h1, .ref h2, .ref h5, .ref h6, .ref h7, .ref h8, .ref h9, .ref h10, .ref h11, .ref h3, .ref h12, .ref h4, .ref h13, .int 0, .null])), (h1, .inr (9, [.ref h14, .int 0, .int 0, .int 0])), (h2, .inr (2, [.ref h15, .ref h16, .int 0, .int 0, .long 0, .long 0, .long 0, .long 0, .long 0, .int 0, .int 0, .int 1])), (h3, .inr (4, [.ref h17, .ref h18, .ref h19, .int 0, .int 0])), (h4, .inr (0, [.ref h20, .ref h21, .int 0, .int 0, .int 0]))], rfl, Or.inr (Or.inr (Or.inr (Or.inr (Or.inr (Or.inr (Or.inr (Or.inr (⟨rfl, c_10⟩)))))))), by rw [ht]; exact hP9, hD⟩, hS.F ht⟩) hS.2.2 dX11_count_110
set_option maxHeartbeats 4000000 in
set_option maxRecDepth 100000 in
/-- OnlyHalvesModel.together()I -/
theorem k_X12_together_v3 (l : Launch) (dC : Nat → ClassId) (dI : Nat → Nat → Nat) (cB cI cJ cZ cM : ClassId) (h0 h1 h2 h3 h4 h5 h6 h7 h8 h9 h10 h11 h12 h13 h14 h15 h16 h17 h18 h19 h20 h21 h22 h23 h24 h25 h26 h27 : Nat) (sz : Nat) : Met l yX12_together wsX12_together ({ frames := 0, cells := 0, slots := 0, locals := 0 }) (va_Pc [.ref h0] (PW (dC, dI) (TY cB cI cJ cZ cM) [(h0, .inr (12, [.int 0, .ref h1, .ref h2, .ref h3, .int 0, .ref h4, .ref h5, .ref h6, .ref h7, .int 0, .int 1, .ref h8, .int 0, .ref h9, .int 0, .int 0, .null, .int 0, .int 0, .int 0, .int 0, .ref h10, .ref h11, .int 0, .int (-1), .int 0, .int 0, .int 0, .int 0, .int 0, .int 0, .int 0, .ref h12, .int 0, .ref h13, .int 0, .int 0, .int 0, .int 0, .ref h14, .ref h15, .ref h16, .ref h17, .ref h18, .int 0, .ref h19, .ref h20, .ref h21, .int 0, .int 0, .int 0, .ref h22, .ref h23, .ref h24, .int 0, .int 0, .ref h25, .ref h26, .ref h27]))] sz)) (va_Qi (fun (r : Int32) (u : va_W) => (r = 0 ∧ u = [(h0, .inr (12, [.int 0, .ref h1, .ref h2, .ref h3, .int 0, .ref h4, .ref h5, .ref h6, .ref h7, .int 0, .int 1, .ref h8, .int 0, .ref h9, .int 0, .int 0, .null, .int 0, .int 0, .int 0, .int 0, .ref h10, .ref h11, .int 0, .int (-1), .int 0, .int 0, .int 0, .int 0, .int 0, .int 0, .int 0, .ref h12, .int 0, .ref h13, .int 0, .int 0, .int 0, .int 0, .ref h14, .ref h15, .ref h16, .ref h17, .ref h18, .int 0, .ref h19, .ref h20, .ref h21, .int 0, .int 0, .int 0, .ref h22, .ref h23, .ref h24, .int 0, .int 0, .ref h25, .ref h26, .ref h27]))])) (BW (dC, dI) (va_A [(h0, .inr (12, [.int 0, .ref h1, .ref h2, .ref h3, .int 0, .ref h4, .ref h5, .ref h6, .ref h7, .int 0, .int 1, .ref h8, .int 0, .ref h9, .int 0, .int 0, .null, .int 0, .int 0, .int 0, .int 0, .ref h10, .ref h11, .int 0, .int (-1), .int 0, .int 0, .int 0, .int 0, .int 0, .int 0, .int 0, .ref h12, .int 0, .ref h13, .int 0, .int 0, .int 0, .int 0, .ref h14, .ref h15, .ref h16, .ref h17, .ref h18, .int 0, .ref h19, .ref h20, .ref h21, .int 0, .int 0, .int 0, .ref h22, .ref h23, .ref h24, .int 0, .int 0, .ref h25, .ref h26, .ref h27]))] sz)) (va_A [(h0, .inr (12, [.int 0, .ref h1, .ref h2, .ref h3, .int 0, .ref h4, .ref h5, .ref h6, .ref h7, .int 0, .int 1, .ref h8, .int 0, .ref h9, .int 0, .int 0, .null, .int 0, .int 0, .int 0, .int 0, .ref h10, .ref h11, .int 0, .int (-1), .int 0, .int 0, .int 0, .int 0, .int 0, .int 0, .int 0, .ref h12, .int 0, .ref h13, .int 0, .int 0, .int 0, .int 0, .ref h14, .ref h15, .ref h16, .ref h17, .ref h18, .int 0, .ref h19, .ref h20, .ref h21, .int 0, .int 0, .int 0, .ref h22, .ref h23, .ref h24, .int 0, .int 0, .ref h25, .ref h26, .ref h27]))] sz)) 0 0 (va_A [(h0, .inr (12, [.int 0, .ref h1, .ref h2, .ref h3, .int 0, .ref h4, .ref h5, .ref h6, .ref h7, .int 0, .int 1, .ref h8, .int 0, .ref h9, .int 0, .int 0, .null, .int 0, .int 0, .int 0, .int 0, .ref h10, .ref h11, .int 0, .int (-1), .int 0, .int 0, .int 0, .int 0, .int 0, .int 0, .int 0, .ref h12, .int 0, .ref h13, .int 0, .int 0, .int 0, .int 0, .ref h14, .ref h15, .ref h16, .ref h17, .ref h18, .int 0, .ref h19, .ref h20, .ref h21, .int 0, .int 0, .int 0, .ref h22, .ref h23, .ref h24, .int 0, .int 0, .ref h25, .ref h26, .ref h27]))] sz) := by
  refine Met.ofW (cc := cX12_together) (maxL := 3) (ret := (some .int)) (by decide) rfl ?_
  intro p e s m args below meth c s₁ B hml hv
  obtain ⟨rfl, hsz, hP, hK, hD0, hO⟩ := hv
  have hx := B.exec
  have hb := B.bytes
  have hr := B.returns
  have hts := atoms_spec (ws := wsX12_together) B.pre
  have hown : s.vm.findClass RX12 = some m.cls := findClass_of_methodNamed B.named
  have hlocks := B.notSynchronized
  subst hsz
  have hD := hD0.self (sz := s.heap.size)
  generalize hAe : va_A [(h0, .inr (12, [.int 0, .ref h1, .ref h2, .ref h3, .int 0, .ref h4, .ref h5, .ref h6, .ref h7, .int 0, .int 1, .ref h8, .int 0, .ref h9, .int 0, .int 0, .null, .int 0, .int 0, .int 0, .int 0, .ref h10, .ref h11, .int 0, .int (-1), .int 0, .int 0, .int 0, .int 0, .int 0, .int 0, .int 0, .ref h12, .int 0, .ref h13, .int 0, .int 0, .int 0, .int 0, .ref h14, .ref h15, .ref h16, .ref h17, .ref h18, .int 0, .ref h19, .ref h20, .ref h21, .int 0, .int 0, .int 0, .ref h22, .ref h23, .ref h24, .int 0, .int 0, .ref h25, .ref h26, .ref h27]))] s.heap.size = A at hD ⊢
  have hA : ∀ q : Nat, s.heap.size ≤ q → A q := fun q h => by rw [← hAe]; exact Or.inr h
  have hS : va_S A s.heap s.heap [] := va_S.rf
  have hP : va_P (dC, dI) vwCl [(h0, .inr (12, [.int 0, .ref h1, .ref h2, .ref h3, .int 0, .ref h4, .ref h5, .ref h6, .ref h7, .int 0, .int 1, .ref h8, .int 0, .ref h9, .int 0, .int 0, .null, .int 0, .int 0, .int 0, .int 0, .ref h10, .ref h11, .int 0, .int (-1), .int 0, .int 0, .int 0, .int 0, .int 0, .int 0, .int 0, .ref h12, .int 0, .ref h13, .int 0, .int 0, .int 0, .int 0, .ref h14, .ref h15, .ref h16, .ref h17, .ref h18, .int 0, .ref h19, .ref h20, .ref h21, .int 0, .int 0, .int 0, .ref h22, .ref h23, .ref h24, .int 0, .int 0, .ref h25, .ref h26, .ref h27]))] s.heap := hP
  have hl := lv_entry ([.ref h0]) (n := 3) (Nat.le_of_ble_eq_true rfl)
  rw [lg_entry_eq]
  generalize (lg_sl ([.ref h0]) ++ List.replicate (3 - (lg_sl ([.ref h0])).length) Slot.unset).toArray = ls at hl ⊢
  have hl : lv_has ls 3 [(0, .ref h0)] := hl
  refine w_gen hP hS (fun H locs hP hS => ?_)
  refine lv_iconst (v := 0) hx hb dX12_together_0 (by decide) ?_
  refine lv_istore_n (lv' := [(1, .int 0), (0, .ref h0)]) hx hb dX12_together_1 rfl hl (by decide) rfl (fun ls hl => ?_)
  refine lv_iconst (v := 0) hx hb dX12_together_2 (by decide) ?_
  refine lv_istore_n (lv' := [(2, .int 0), (1, .int 0), (0, .ref h0)]) hx hb dX12_together_3 rfl hl (by decide) rfl (fun ls hl => ?_)
  refine lv_iload_n hx hb dX12_together_4 rfl (lv_at hl 0 rfl) ?_
  refine lv_aload_n hx hb dX12_together_5 rfl (lv_at hl 2 rfl) ?_
  refine va_get (D := (dC, dI)) (tys := TY cB cI cJ cZ cM) (ci := 12) (v := .int 0) (C := RX12) (T := TX12) (N := 59) hx hb hts in_X12_together_X12 hown hK hP 0 rfl rfl 4 (by decide) (hts (.fieldLink RX12 114 "OnlyHalvesModel" "things" "I") (by decide +kernel)) (fun _ h9 => h9) rfl dX12_together_6 ?_
  refine lv_icmp_ge (tgt := 36) hx hb dX12_together_9 (by decide) (fun c_1 => ?_) (fun c_1 => absurd c_1 (by decide))
  refine lv_iload_n hx hb dX12_together_36 rfl (lv_at hl 1 rfl) ?_
  have hP9 := hP
  exact W.iret (v := 0) hx hb hr (fun t ht hW => ⟨⟨0, [(h0, .inr (12, [.int 0, .ref h1, .ref h2, .ref h3, .int 0, .ref h4, .ref h5, .ref h6, .ref h7, .int 0, .int 1, .ref h8, .int 0, .ref h9, .int 0, .int 0, .null, .int 0, .int 0, .int 0, .int 0, .ref h10, .ref h11, .int 0, .int (-1), .int 0, .int 0, .int 0, .int 0, .int 0, .int 0, .int 0, .ref h12, .int 0, .ref h13, .int 0, .int 0, .int 0, .int 0, .ref h14, .ref h15, .ref h16, .ref h17, .ref h18, .int 0, .ref h19, .ref h20, .ref h21, .int 0, .int 0, .int 0, .ref h22, .ref h23, .ref h24, .int 0, .int 0, .ref h25, .ref h26, .ref h27]))], rfl, ⟨rfl, rfl⟩, by rw [ht]; exact hP9, hD⟩, hS.F ht⟩) hS.2.2 dX12_together_37
set_option maxHeartbeats 4000000 in
set_option maxRecDepth 100000 in
/-- OnlyHalvesModel.count(I)I -/
theorem k_X12_count (l : Launch) (dC : Nat → ClassId) (dI : Nat → Nat → Nat) (cB cI cJ cZ cM : ClassId) (h0 h1 h2 h3 h4 h5 h6 h7 h8 h9 h10 h11 h12 h13 h14 h15 h16 h17 h18 h19 h20 h21 h22 h23 h24 h25 h26 h27 : Nat) (sz : Nat) (p0 : Int32) : Met l yX12_count wsX12_count ({ frames := 1, cells := 0, slots := 0, locals := 64 }) (va_Pc [.ref h0, .int p0] (PW (dC, dI) (TY cB cI cJ cZ cM) [(h0, .inr (12, [.int 0, .ref h1, .ref h2, .ref h3, .int 0, .ref h4, .ref h5, .ref h6, .ref h7, .int 0, .int 1, .ref h8, .int 0, .ref h9, .int 0, .int 0, .null, .int 0, .int 0, .int 0, .int 0, .ref h10, .ref h11, .int 0, .int (-1), .int 0, .int 0, .int 0, .int 0, .int 0, .int 0, .int 0, .ref h12, .int 0, .ref h13, .int 0, .int 0, .int 0, .int 0, .ref h14, .ref h15, .ref h16, .ref h17, .ref h18, .int 0, .ref h19, .ref h20, .ref h21, .int 0, .int 0, .int 0, .ref h22, .ref h23, .ref h24, .int 0, .int 0, .ref h25, .ref h26, .ref h27]))] sz)) (va_Qi (fun (r : Int32) (u : va_W) => (r = 0 ∧ p0 = 0) ∨ (r = 0 ∧ p0 = 1) ∨ (r = 0 ∧ p0 = 2) ∨ (r = 0 ∧ p0 = 3) ∨ (r = 0 ∧ p0 = 4) ∨ (r = 0 ∧ p0 = 5) ∨ (r = 0 ∧ p0 = 6) ∨ (r = 0 ∧ p0 = 7) ∨ (r = (-1) ∧ ((p0 : Int32).toInt < 0 ∨ 7 < (p0 : Int32).toInt))) (BW (dC, dI) (va_A [(h0, .inr (12, [.int 0, .ref h1, .ref h2, .ref h3, .int 0, .ref h4, .ref h5, .ref h6, .ref h7, .int 0, .int 1, .ref h8, .int 0, .ref h9, .int 0, .int 0, .null, .int 0, .int 0, .int 0, .int 0, .ref h10, .ref h11, .int 0, .int (-1), .int 0, .int 0, .int 0, .int 0, .int 0, .int 0, .int 0, .ref h12, .int 0, .ref h13, .int 0, .int 0, .int 0, .int 0, .ref h14, .ref h15, .ref h16, .ref h17, .ref h18, .int 0, .ref h19, .ref h20, .ref h21, .int 0, .int 0, .int 0, .ref h22, .ref h23, .ref h24, .int 0, .int 0, .ref h25, .ref h26, .ref h27]))] sz)) (va_A [(h0, .inr (12, [.int 0, .ref h1, .ref h2, .ref h3, .int 0, .ref h4, .ref h5, .ref h6, .ref h7, .int 0, .int 1, .ref h8, .int 0, .ref h9, .int 0, .int 0, .null, .int 0, .int 0, .int 0, .int 0, .ref h10, .ref h11, .int 0, .int (-1), .int 0, .int 0, .int 0, .int 0, .int 0, .int 0, .int 0, .ref h12, .int 0, .ref h13, .int 0, .int 0, .int 0, .int 0, .ref h14, .ref h15, .ref h16, .ref h17, .ref h18, .int 0, .ref h19, .ref h20, .ref h21, .int 0, .int 0, .int 0, .ref h22, .ref h23, .ref h24, .int 0, .int 0, .ref h25, .ref h26, .ref h27]))] sz)) 0 0 (va_A [(h0, .inr (12, [.int 0, .ref h1, .ref h2, .ref h3, .int 0, .ref h4, .ref h5, .ref h6, .ref h7, .int 0, .int 1, .ref h8, .int 0, .ref h9, .int 0, .int 0, .null, .int 0, .int 0, .int 0, .int 0, .ref h10, .ref h11, .int 0, .int (-1), .int 0, .int 0, .int 0, .int 0, .int 0, .int 0, .int 0, .ref h12, .int 0, .ref h13, .int 0, .int 0, .int 0, .int 0, .ref h14, .ref h15, .ref h16, .ref h17, .ref h18, .int 0, .ref h19, .ref h20, .ref h21, .int 0, .int 0, .int 0, .ref h22, .ref h23, .ref h24, .int 0, .int 0, .ref h25, .ref h26, .ref h27]))] sz) := by
  refine Met.ofW (cc := cX12_count) (maxL := 4) (ret := (some .int)) (by decide) rfl ?_
  intro p e s m args below meth c s₁ B hml hv
  obtain ⟨rfl, hsz, hP, hK, hD0, hO⟩ := hv
  have hx := B.exec
  have hb := B.bytes
  have hr := B.returns
  have hts := atoms_spec (ws := wsX12_count) B.pre
  have hown : s.vm.findClass RX12 = some m.cls := findClass_of_methodNamed B.named
  have hlocks := B.notSynchronized
  subst hsz
  have hD := hD0.self (sz := s.heap.size)
  generalize hAe : va_A [(h0, .inr (12, [.int 0, .ref h1, .ref h2, .ref h3, .int 0, .ref h4, .ref h5, .ref h6, .ref h7, .int 0, .int 1, .ref h8, .int 0, .ref h9, .int 0, .int 0, .null, .int 0, .int 0, .int 0, .int 0, .ref h10, .ref h11, .int 0, .int (-1), .int 0, .int 0, .int 0, .int 0, .int 0, .int 0, .int 0, .ref h12, .int 0, .ref h13, .int 0, .int 0, .int 0, .int 0, .ref h14, .ref h15, .ref h16, .ref h17, .ref h18, .int 0, .ref h19, .ref h20, .ref h21, .int 0, .int 0, .int 0, .ref h22, .ref h23, .ref h24, .int 0, .int 0, .ref h25, .ref h26, .ref h27]))] s.heap.size = A at hD ⊢
  have hA : ∀ q : Nat, s.heap.size ≤ q → A q := fun q h => by rw [← hAe]; exact Or.inr h
  have hS : va_S A s.heap s.heap [] := va_S.rf
  have hP : va_P (dC, dI) vwCl [(h0, .inr (12, [.int 0, .ref h1, .ref h2, .ref h3, .int 0, .ref h4, .ref h5, .ref h6, .ref h7, .int 0, .int 1, .ref h8, .int 0, .ref h9, .int 0, .int 0, .null, .int 0, .int 0, .int 0, .int 0, .ref h10, .ref h11, .int 0, .int (-1), .int 0, .int 0, .int 0, .int 0, .int 0, .int 0, .int 0, .ref h12, .int 0, .ref h13, .int 0, .int 0, .int 0, .int 0, .ref h14, .ref h15, .ref h16, .ref h17, .ref h18, .int 0, .ref h19, .ref h20, .ref h21, .int 0, .int 0, .int 0, .ref h22, .ref h23, .ref h24, .int 0, .int 0, .ref h25, .ref h26, .ref h27]))] s.heap := hP
  have hl := lv_entry ([.ref h0, .int p0]) (n := 4) (Nat.le_of_ble_eq_true rfl)
  rw [lg_entry_eq]
  generalize (lg_sl ([.ref h0, .int p0]) ++ List.replicate (4 - (lg_sl ([.ref h0, .int p0])).length) Slot.unset).toArray = ls at hl ⊢
  have hl : lv_has ls 4 [(0, .ref h0), (1, .int p0)] := hl
  refine w_gen hP hS (fun H locs hP hS => ?_)
  refine lv_aload_n hx hb dX12_count_0 rfl (lv_at hl 0 rfl) ?_
  refine lv_iconst (v := 0) hx hb dX12_count_1 (by decide) ?_
  refine va_put (D := (dC, dI)) (tys := TY cB cI cJ cZ cM) (ci := 12) (v := .int 0) (ty := .int) (C := RX12) (T := TX12) (N := 59) hx hb hts in_X12_count_X12 tyX12 tyX12_ok nmX12 hown hK hP hD hS 0 rfl rfl 15 (by decide) (hts (.fieldLink RX12 101 "OnlyHalvesModel" "thrown" "I") (by decide +kernel)) (fun _ h9 => h9) rfl (by decide +kernel) rfl rfl (Nat.le_of_ble_eq_true rfl) dX12_count_2 (fun H locs hP hD hS => ?_)
  have hP : va_P (dC, dI) vwCl [(h0, .inr (12, [.int 0, .ref h1, .ref h2, .ref h3, .int 0, .ref h4, .ref h5, .ref h6, .ref h7, .int 0, .int 1, .ref h8, .int 0, .ref h9, .int 0, .int 0, .null, .int 0, .int 0, .int 0, .int 0, .ref h10, .ref h11, .int 0, .int (-1), .int 0, .int 0, .int 0, .int 0, .int 0, .int 0, .int 0, .ref h12, .int 0, .ref h13, .int 0, .int 0, .int 0, .int 0, .ref h14, .ref h15, .ref h16, .ref h17, .ref h18, .int 0, .ref h19, .ref h20, .ref h21, .int 0, .int 0, .int 0, .ref h22, .ref h23, .ref h24, .int 0, .int 0, .ref h25, .ref h26, .ref h27]))] H := hP
  have hD : va_D A [(h0, .inr (12, [.int 0, .ref h1, .ref h2, .ref h3, .int 0, .ref h4, .ref h5, .ref h6, .ref h7, .int 0, .int 1, .ref h8, .int 0, .ref h9, .int 0, .int 0, .null, .int 0, .int 0, .int 0, .int 0, .ref h10, .ref h11, .int 0, .int (-1), .int 0, .int 0, .int 0, .int 0, .int 0, .int 0, .int 0, .ref h12, .int 0, .ref h13, .int 0, .int 0, .int 0, .int 0, .ref h14, .ref h15, .ref h16, .ref h17, .ref h18, .int 0, .ref h19, .ref h20, .ref h21, .int 0, .int 0, .int 0, .ref h22, .ref h23, .ref h24, .int 0, .int 0, .ref h25, .ref h26, .ref h27]))] := hD
  refine lv_iconst (v := 0) hx hb dX12_count_5 (by decide) ?_
  refine lv_istore_n (lv' := [(2, .int 0), (0, .ref h0), (1, .int p0)]) hx hb dX12_count_6 rfl hl (by decide) rfl (fun ls hl => ?_)
  refine lv_iload_n hx hb dX12_count_7 rfl (lv_at hl 2 rfl) ?_
  have h_1 : p0 = 0 ∨ p0 = 1 ∨ p0 = 2 ∨ p0 = 3 ∨ p0 = 4 ∨ p0 = 5 ∨ p0 = 6 ∨ p0 = 7 ∨ ((p0).toInt < 0 ∨ 7 < (p0).toInt) := by
    have z0 : (0 : Int32).toInt = 0 := by decide
    have z1 : (1 : Int32).toInt = 1 := by decide
    have z2 : (2 : Int32).toInt = 2 := by decide
    have z3 : (3 : Int32).toInt = 3 := by decide
    have z4 : (4 : Int32).toInt = 4 := by decide
    have z5 : (5 : Int32).toInt = 5 := by decide
    have z6 : (6 : Int32).toInt = 6 := by decide
    have z7 : (7 : Int32).toInt = 7 := by decide
    rcases Int.lt_or_le (p0).toInt 0 with q | q
    · exact Or.inr (Or.inr (Or.inr (Or.inr (Or.inr (Or.inr (Or.inr (Or.inr (Or.inl q))))))))
    rcases Int.lt_or_le 7 (p0).toInt with q2 | q2
    · exact Or.inr (Or.inr (Or.inr (Or.inr (Or.inr (Or.inr (Or.inr (Or.inr (Or.inr q2))))))))
    by_cases y0 : (p0).toInt = 0
    · exact Or.inl (Int32.toInt_inj.mp (y0.trans z0.symm))
    by_cases y1 : (p0).toInt = 1
    · exact Or.inr (Or.inl (Int32.toInt_inj.mp (y1.trans z1.symm)))
    by_cases y2 : (p0).toInt = 2
    · exact Or.inr (Or.inr (Or.inl (Int32.toInt_inj.mp (y2.trans z2.symm))))
    by_cases y3 : (p0).toInt = 3
    · exact Or.inr (Or.inr (Or.inr (Or.inl (Int32.toInt_inj.mp (y3.trans z3.symm)))))
    by_cases y4 : (p0).toInt = 4
    · exact Or.inr (Or.inr (Or.inr (Or.inr (Or.inl (Int32.toInt_inj.mp (y4.trans z4.symm))))))
    by_cases y5 : (p0).toInt = 5
    · exact Or.inr (Or.inr (Or.inr (Or.inr (Or.inr (Or.inl (Int32.toInt_inj.mp (y5.trans z5.symm)))))))
    by_cases y6 : (p0).toInt = 6
    · exact Or.inr (Or.inr (Or.inr (Or.inr (Or.inr (Or.inr (Or.inl (Int32.toInt_inj.mp (y6.trans z6.symm))))))))
    by_cases y7 : (p0).toInt = 7
    · exact Or.inr (Or.inr (Or.inr (Or.inr (Or.inr (Or.inr (Or.inr (Or.inl (Int32.toInt_inj.mp (y7.trans z7.symm)))))))))
    exact absurd trivial (fun _ => by omega)
  rcases h_1 with c_2 | c_3 | c_4 | c_5 | c_6 | c_7 | c_8 | c_9 | c_10
  · refine w_top (v' := .int 0) (congrArg Value.int c_2) ?_
    refine lv_tableIn (off := 48) (tgt := 56) hx hb dX12_count_8 (by decide) (by decide) (by decide) (by decide) ?_
    refine lv_aload_n hx hb dX12_count_56 rfl (lv_at hl 1 rfl) ?_
    refine va_get (D := (dC, dI)) (tys := TY cB cI cJ cZ cM) (ci := 12) (v := .int 0) (C := RX12) (T := TX12) (N := 59) hx hb hts in_X12_count_X12 hown hK hP 0 rfl rfl 0 (by decide) (hts (.fieldLink RX12 107 "OnlyHalvesModel" "people" "I") (by decide +kernel)) (fun _ h9 => h9) rfl dX12_count_57 ?_
    have hP9 := hP
    exact W.iret (v := 0) hx hb hr (fun t ht hW => ⟨⟨0, [(h0, .inr (12, [.int 0, .ref h1, .ref h2, .ref h3, .int 0, .ref h4, .ref h5, .ref h6, .ref h7, .int 0, .int 1, .ref h8, .int 0, .ref h9, .int 0, .int 0, .null, .int 0, .int 0, .int 0, .int 0, .ref h10, .ref h11, .int 0, .int (-1), .int 0, .int 0, .int 0, .int 0, .int 0, .int 0, .int 0, .ref h12, .int 0, .ref h13, .int 0, .int 0, .int 0, .int 0, .ref h14, .ref h15, .ref h16, .ref h17, .ref h18, .int 0, .ref h19, .ref h20, .ref h21, .int 0, .int 0, .int 0, .ref h22, .ref h23, .ref h24, .int 0, .int 0, .ref h25, .ref h26, .ref h27]))], rfl, Or.inl (⟨rfl, c_2⟩), by rw [ht]; exact hP9, hD⟩, hS.F ht⟩) hS.2.2 dX12_count_60
  · refine w_top (v' := .int 1) (congrArg Value.int c_3) ?_
    refine lv_tableIn (off := 53) (tgt := 61) hx hb dX12_count_8 (by decide) (by decide) (by decide) (by decide) ?_
    refine lv_aload_n hx hb dX12_count_61 rfl (lv_at hl 1 rfl) ?_
    refine va_get (D := (dC, dI)) (tys := TY cB cI cJ cZ cM) (ci := 12) (v := .int 0) (C := RX12) (T := TX12) (N := 59) hx hb hts in_X12_count_X12 hown hK hP 0 rfl rfl 4 (by decide) (hts (.fieldLink RX12 114 "OnlyHalvesModel" "things" "I") (by decide +kernel)) (fun _ h9 => h9) rfl dX12_count_62 ?_
    have hP9 := hP
    exact W.iret (v := 0) hx hb hr (fun t ht hW => ⟨⟨0, [(h0, .inr (12, [.int 0, .ref h1, .ref h2, .ref h3, .int 0, .ref h4, .ref h5, .ref h6, .ref h7, .int 0, .int 1, .ref h8, .int 0, .ref h9, .int 0, .int 0, .null, .int 0, .int 0, .int 0, .int 0, .ref h10, .ref h11, .int 0, .int (-1), .int 0, .int 0, .int 0, .int 0, .int 0, .int 0, .int 0, .ref h12, .int 0, .ref h13, .int 0, .int 0, .int 0, .int 0, .ref h14, .ref h15, .ref h16, .ref h17, .ref h18, .int 0, .ref h19, .ref h20, .ref h21, .int 0, .int 0, .int 0, .ref h22, .ref h23, .ref h24, .int 0, .int 0, .ref h25, .ref h26, .ref h27]))], rfl, Or.inr (Or.inl (⟨rfl, c_3⟩)), by rw [ht]; exact hP9, hD⟩, hS.F ht⟩) hS.2.2 dX12_count_65
  · refine w_top (v' := .int 2) (congrArg Value.int c_4) ?_
    refine lv_tableIn (off := 58) (tgt := 66) hx hb dX12_count_8 (by decide) (by decide) (by decide) (by decide) ?_
    refine lv_aload_n hx hb dX12_count_66 rfl (lv_at hl 1 rfl) ?_
    refine k_iV (As := []) (rest := []) (wr := []) ⟨hx, hb, hml, hown, hts⟩ (k_X12_together_v3 l dC dI cB cI cJ cZ cM h0 h1 h2 h3 h4 h5 h6 h7 h8 h9 h10 h11 h12 h13 h14 h15 h16 h17 h18 h19 h20 h21 h22 h23 h24 h25 h26 h27 H.size ) (cwV 0 hts gX12_count_X12_together rfl rfl rfl (by decide +kernel) ⟨Nat.le_of_ble_eq_true rfl, Nat.le_of_ble_eq_true rfl⟩) hK hO hP hD hS hA [0] [] rfl rfl rfl (by decide) (by decide) (by decide) 12 0 rfl rfl rfl hl.1 rfl (Nat.le_of_ble_eq_true rfl) dX12_count_67 ⟨Nat.le_of_ble_eq_true rfl, Nat.le_of_ble_eq_true rfl⟩ (fun r_11 u_13 H locs hw_14 hP hD hS => ?_)
    rcases hw_14 with ⟨rfl, rfl⟩
    have hP : va_P (dC, dI) vwCl [(h0, .inr (12, [.int 0, .ref h1, .ref h2, .ref h3, .int 0, .ref h4, .ref h5, .ref h6, .ref h7, .int 0, .int 1, .ref h8, .int 0, .ref h9, .int 0, .int 0, .null, .int 0, .int 0, .int 0, .int 0, .ref h10, .ref h11, .int 0, .int (-1), .int 0, .int 0, .int 0, .int 0, .int 0, .int 0, .int 0, .ref h12, .int 0, .ref h13, .int 0, .int 0, .int 0, .int 0, .ref h14, .ref h15, .ref h16, .ref h17, .ref h18, .int 0, .ref h19, .ref h20, .ref h21, .int 0, .int 0, .int 0, .ref h22, .ref h23, .ref h24, .int 0, .int 0, .ref h25, .ref h26, .ref h27]))] H := hP
    have hD : va_D A [(h0, .inr (12, [.int 0, .ref h1, .ref h2, .ref h3, .int 0, .ref h4, .ref h5, .ref h6, .ref h7, .int 0, .int 1, .ref h8, .int 0, .ref h9, .int 0, .int 0, .null, .int 0, .int 0, .int 0, .int 0, .ref h10, .ref h11, .int 0, .int (-1), .int 0, .int 0, .int 0, .int 0, .int 0, .int 0, .int 0, .ref h12, .int 0, .ref h13, .int 0, .int 0, .int 0, .int 0, .ref h14, .ref h15, .ref h16, .ref h17, .ref h18, .int 0, .ref h19, .ref h20, .ref h21, .int 0, .int 0, .int 0, .ref h22, .ref h23, .ref h24, .int 0, .int 0, .ref h25, .ref h26, .ref h27]))] := hD
    have hP9 := hP
    exact W.iret (v := 0) hx hb hr (fun t ht hW => ⟨⟨0, [(h0, .inr (12, [.int 0, .ref h1, .ref h2, .ref h3, .int 0, .ref h4, .ref h5, .ref h6, .ref h7, .int 0, .int 1, .ref h8, .int 0, .ref h9, .int 0, .int 0, .null, .int 0, .int 0, .int 0, .int 0, .ref h10, .ref h11, .int 0, .int (-1), .int 0, .int 0, .int 0, .int 0, .int 0, .int 0, .int 0, .ref h12, .int 0, .ref h13, .int 0, .int 0, .int 0, .int 0, .ref h14, .ref h15, .ref h16, .ref h17, .ref h18, .int 0, .ref h19, .ref h20, .ref h21, .int 0, .int 0, .int 0, .ref h22, .ref h23, .ref h24, .int 0, .int 0, .ref h25, .ref h26, .ref h27]))], rfl, Or.inr (Or.inr (Or.inl (⟨rfl, c_4⟩))), by rw [ht]; exact hP9, hD⟩, hS.F ht⟩) hS.2.2 dX12_count_70
  · refine w_top (v' := .int 3) (congrArg Value.int c_5) ?_
    refine lv_tableIn (off := 63) (tgt := 71) hx hb dX12_count_8 (by decide) (by decide) (by decide) (by decide) ?_
    refine lv_aload_n hx hb dX12_count_71 rfl (lv_at hl 1 rfl) ?_
    refine va_get (D := (dC, dI)) (tys := TY cB cI cJ cZ cM) (ci := 12) (v := .int 0) (C := RX12) (T := TX12) (N := 59) hx hb hts in_X12_count_X12 hown hK hP 0 rfl rfl 33 (by decide) (hts (.fieldLink RX12 174 "OnlyHalvesModel" "undoMany" "I") (by decide +kernel)) (fun _ h9 => h9) rfl dX12_count_72 ?_
    have hP9 := hP
    exact W.iret (v := 0) hx hb hr (fun t ht hW => ⟨⟨0, [(h0, .inr (12, [.int 0, .ref h1, .ref h2, .ref h3, .int 0, .ref h4, .ref h5, .ref h6, .ref h7, .int 0, .int 1, .ref h8, .int 0, .ref h9, .int 0, .int 0, .null, .int 0, .int 0, .int 0, .int 0, .ref h10, .ref h11, .int 0, .int (-1), .int 0, .int 0, .int 0, .int 0, .int 0, .int 0, .int 0, .ref h12, .int 0, .ref h13, .int 0, .int 0, .int 0, .int 0, .ref h14, .ref h15, .ref h16, .ref h17, .ref h18, .int 0, .ref h19, .ref h20, .ref h21, .int 0, .int 0, .int 0, .ref h22, .ref h23, .ref h24, .int 0, .int 0, .ref h25, .ref h26, .ref h27]))], rfl, Or.inr (Or.inr (Or.inr (Or.inl (⟨rfl, c_5⟩)))), by rw [ht]; exact hP9, hD⟩, hS.F ht⟩) hS.2.2 dX12_count_75
  · refine w_top (v' := .int 4) (congrArg Value.int c_6) ?_
    refine lv_tableIn (off := 68) (tgt := 76) hx hb dX12_count_8 (by decide) (by decide) (by decide) (by decide) ?_
    refine lv_aload_n hx hb dX12_count_76 rfl (lv_at hl 1 rfl) ?_
    refine va_get (D := (dC, dI)) (tys := TY cB cI cJ cZ cM) (ci := 12) (v := .int 0) (C := RX12) (T := TX12) (N := 59) hx hb hts in_X12_count_X12 hown hK hP 0 rfl rfl 54 (by decide) (hts (.fieldLink RX12 391 "OnlyHalvesModel" "usesMany" "I") (by decide +kernel)) (fun _ h9 => h9) rfl dX12_count_77 ?_
    have hP9 := hP
    exact W.iret (v := 0) hx hb hr (fun t ht hW => ⟨⟨0, [(h0, .inr (12, [.int 0, .ref h1, .ref h2, .ref h3, .int 0, .ref h4, .ref h5, .ref h6, .ref h7, .int 0, .int 1, .ref h8, .int 0, .ref h9, .int 0, .int 0, .null, .int 0, .int 0, .int 0, .int 0, .ref h10, .ref h11, .int 0, .int (-1), .int 0, .int 0, .int 0, .int 0, .int 0, .int 0, .int 0, .ref h12, .int 0, .ref h13, .int 0, .int 0, .int 0, .int 0, .ref h14, .ref h15, .ref h16, .ref h17, .ref h18, .int 0, .ref h19, .ref h20, .ref h21, .int 0, .int 0, .int 0, .ref h22, .ref h23, .ref h24, .int 0, .int 0, .ref h25, .ref h26, .ref h27]))], rfl, Or.inr (Or.inr (Or.inr (Or.inr (Or.inl (⟨rfl, c_6⟩))))), by rw [ht]; exact hP9, hD⟩, hS.F ht⟩) hS.2.2 dX12_count_80
  · refine w_top (v' := .int 5) (congrArg Value.int c_7) ?_
    refine lv_tableIn (off := 73) (tgt := 81) hx hb dX12_count_8 (by decide) (by decide) (by decide) (by decide) ?_
    refine lv_iconst (v := 0) hx hb dX12_count_81 (by decide) ?_
    refine lv_istore_n (lv' := [(3, .int 0), (2, .int 0), (0, .ref h0), (1, .int p0)]) hx hb dX12_count_82 rfl hl (by decide) rfl (fun ls hl => ?_)
    refine lv_iload_n hx hb dX12_count_83 rfl (lv_at hl 0 rfl) ?_
    refine lv_aload_n hx hb dX12_count_84 rfl (lv_at hl 2 rfl) ?_
    refine va_get (D := (dC, dI)) (tys := TY cB cI cJ cZ cM) (ci := 12) (v := .int 0) (C := RX12) (T := TX12) (N := 59) hx hb hts in_X12_count_X12 hown hK hP 0 rfl rfl 0 (by decide) (hts (.fieldLink RX12 107 "OnlyHalvesModel" "people" "I") (by decide +kernel)) (fun _ h9 => h9) rfl dX12_count_85 ?_
    refine lv_icmp_ge (tgt := 106) hx hb dX12_count_88 (by decide) (fun c_15 => ?_) (fun c_15 => absurd c_15 (by decide))
    refine lv_iload_n hx hb dX12_count_106 rfl (lv_at hl 1 rfl) ?_
    have hP9 := hP
    exact W.iret (v := 0) hx hb hr (fun t ht hW => ⟨⟨0, [(h0, .inr (12, [.int 0, .ref h1, .ref h2, .ref h3, .int 0, .ref h4, .ref h5, .ref h6, .ref h7, .int 0, .int 1, .ref h8, .int 0, .ref h9, .int 0, .int 0, .null, .int 0, .int 0, .int 0, .int 0, .ref h10, .ref h11, .int 0, .int (-1), .int 0, .int 0, .int 0, .int 0, .int 0, .int 0, .int 0, .ref h12, .int 0, .ref h13, .int 0, .int 0, .int 0, .int 0, .ref h14, .ref h15, .ref h16, .ref h17, .ref h18, .int 0, .ref h19, .ref h20, .ref h21, .int 0, .int 0, .int 0, .ref h22, .ref h23, .ref h24, .int 0, .int 0, .ref h25, .ref h26, .ref h27]))], rfl, Or.inr (Or.inr (Or.inr (Or.inr (Or.inr (Or.inl (⟨rfl, c_7⟩)))))), by rw [ht]; exact hP9, hD⟩, hS.F ht⟩) hS.2.2 dX12_count_107
  · refine w_top (v' := .int 6) (congrArg Value.int c_8) ?_
    refine lv_tableIn (off := 100) (tgt := 108) hx hb dX12_count_8 (by decide) (by decide) (by decide) (by decide) ?_
    refine lv_aload_n hx hb dX12_count_108 rfl (lv_at hl 1 rfl) ?_
    refine va_get (D := (dC, dI)) (tys := TY cB cI cJ cZ cM) (ci := 12) (v := .int 0) (C := RX12) (T := TX12) (N := 59) hx hb hts in_X12_count_X12 hown hK hP 0 rfl rfl 14 (by decide) (hts (.fieldLink RX12 104 "OnlyHalvesModel" "rowMany" "I") (by decide +kernel)) (fun _ h9 => h9) rfl dX12_count_109 ?_
    have hP9 := hP
    exact W.iret (v := 0) hx hb hr (fun t ht hW => ⟨⟨0, [(h0, .inr (12, [.int 0, .ref h1, .ref h2, .ref h3, .int 0, .ref h4, .ref h5, .ref h6, .ref h7, .int 0, .int 1, .ref h8, .int 0, .ref h9, .int 0, .int 0, .null, .int 0, .int 0, .int 0, .int 0, .ref h10, .ref h11, .int 0, .int (-1), .int 0, .int 0, .int 0, .int 0, .int 0, .int 0, .int 0, .ref h12, .int 0, .ref h13, .int 0, .int 0, .int 0, .int 0, .ref h14, .ref h15, .ref h16, .ref h17, .ref h18, .int 0, .ref h19, .ref h20, .ref h21, .int 0, .int 0, .int 0, .ref h22, .ref h23, .ref h24, .int 0, .int 0, .ref h25, .ref h26, .ref h27]))], rfl, Or.inr (Or.inr (Or.inr (Or.inr (Or.inr (Or.inr (Or.inl (⟨rfl, c_8⟩))))))), by rw [ht]; exact hP9, hD⟩, hS.F ht⟩) hS.2.2 dX12_count_112
  · refine w_top (v' := .int 7) (congrArg Value.int c_9) ?_
    refine lv_tableIn (off := 105) (tgt := 113) hx hb dX12_count_8 (by decide) (by decide) (by decide) (by decide) ?_
    refine lv_aload_n hx hb dX12_count_113 rfl (lv_at hl 1 rfl) ?_
    refine va_get (D := (dC, dI)) (tys := TY cB cI cJ cZ cM) (ci := 12) (v := .int 0) (C := RX12) (T := TX12) (N := 59) hx hb hts in_X12_count_X12 hown hK hP 0 rfl rfl 12 (by decide) (hts (.fieldLink RX12 117 "OnlyHalvesModel" "typed" "I") (by decide +kernel)) (fun _ h9 => h9) rfl dX12_count_114 ?_
    have hP9 := hP
    exact W.iret (v := 0) hx hb hr (fun t ht hW => ⟨⟨0, [(h0, .inr (12, [.int 0, .ref h1, .ref h2, .ref h3, .int 0, .ref h4, .ref h5, .ref h6, .ref h7, .int 0, .int 1, .ref h8, .int 0, .ref h9, .int 0, .int 0, .null, .int 0, .int 0, .int 0, .int 0, .ref h10, .ref h11, .int 0, .int (-1), .int 0, .int 0, .int 0, .int 0, .int 0, .int 0, .int 0, .ref h12, .int 0, .ref h13, .int 0, .int 0, .int 0, .int 0, .ref h14, .ref h15, .ref h16, .ref h17, .ref h18, .int 0, .ref h19, .ref h20, .ref h21, .int 0, .int 0, .int 0, .ref h22, .ref h23, .ref h24, .int 0, .int 0, .ref h25, .ref h26, .ref h27]))], rfl, Or.inr (Or.inr (Or.inr (Or.inr (Or.inr (Or.inr (Or.inr (Or.inl (⟨rfl, c_9⟩)))))))), by rw [ht]; exact hP9, hD⟩, hS.F ht⟩) hS.2.2 dX12_count_117
  · refine lv_tableOut (tgt := 118) hx hb dX12_count_8 c_10 (by decide) ?_
    refine lv_iconst (v := (-1)) hx hb dX12_count_118 (by decide) ?_
    have hP9 := hP
    exact W.iret (v := (-1)) hx hb hr (fun t ht hW => ⟨⟨(-1), [(h0, .inr (12, [.int 0, .ref h1, .ref h2, .ref h3, .int 0, .ref h4, .ref h5, .ref h6, .ref h7, .int 0, .int 1, .ref h8, .int 0, .ref h9, .int 0, .int 0, .null, .int 0, .int 0, .int 0, .int 0, .ref h10, .ref h11, .int 0, .int (-1), .int 0, .int 0, .int 0, .int 0, .int 0, .int 0, .int 0, .ref h12, .int 0, .ref h13, .int 0, .int 0, .int 0, .int 0, .ref h14, .ref h15, .ref h16, .ref h17, .ref h18, .int 0, .ref h19, .ref h20, .ref h21, .int 0, .int 0, .int 0, .ref h22, .ref h23, .ref h24, .int 0, .int 0, .ref h25, .ref h26, .ref h27]))], rfl, Or.inr (Or.inr (Or.inr (Or.inr (Or.inr (Or.inr (Or.inr (Or.inr (⟨rfl, c_10⟩)))))))), by rw [ht]; exact hP9, hD⟩, hS.F ht⟩) hS.2.2 dX12_count_119
set_option maxHeartbeats 4000000 in
set_option maxRecDepth 100000 in
/-- OnlyHalvesModel.row(I)I -/
theorem k_X12_row (l : Launch) (dC : Nat → ClassId) (dI : Nat → Nat → Nat) (cB cI cJ cZ cM : ClassId) (h0 h1 h2 h3 h4 h5 h6 h7 h8 h9 h10 h11 h12 h13 h14 h15 h16 h17 h18 h19 h20 h21 h22 h23 h24 h25 h26 h27 : Nat) (sz : Nat) (p0 : Int32) : Met l yX12_row wsX12_row ({ frames := 1, cells := 0, slots := 0, locals := 64 }) (va_Pc [.ref h0, .int p0] (PW (dC, dI) (TY cB cI cJ cZ cM) [(h0, .inr (12, [.int 0, .ref h1, .ref h2, .ref h3, .int 0, .ref h4, .ref h5, .ref h6, .ref h7, .int 0, .int 1, .ref h8, .int 0, .ref h9, .int 0, .int 0, .null, .int 0, .int 0, .int 0, .int 0, .ref h10, .ref h11, .int 0, .int (-1), .int 0, .int 0, .int 0, .int 0, .int 0, .int 0, .int 0, .ref h12, .int 0, .ref h13, .int 0, .int 0, .int 0, .int 0, .ref h14, .ref h15, .ref h16, .ref h17, .ref h18, .int 0, .ref h19, .ref h20, .ref h21, .int 0, .int 0, .int 0, .ref h22, .ref h23, .ref h24, .int 0, .int 0, .ref h25, .ref h26, .ref h27]))] sz)) (va_Qi (fun (r : Int32) (u : va_W) => (r = 0 ∧ u = [(h0, .inr (12, [.int 0, .ref h1, .ref h2, .ref h3, .int 0, .ref h4, .ref h5, .ref h6, .ref h7, .int 0, .int 1, .ref h8, .int 0, .ref h9, .int 0, .int 1, .null, .int 0, .int 0, .int 0, .int 0, .ref h10, .ref h11, .int 0, .int (-1), .int 0, .int 0, .int 0, .int 0, .int 0, .int 0, .int 0, .ref h12, .int 0, .ref h13, .int 0, .int 0, .int 0, .int 0, .ref h14, .ref h15, .ref h16, .ref h17, .ref h18, .int 0, .ref h19, .ref h20, .ref h21, .int 0, .int 0, .int 0, .ref h22, .ref h23, .ref h24, .int 0, .int 0, .ref h25, .ref h26, .ref h27]))])) (BW (dC, dI) (va_A [(h0, .inr (12, [.int 0, .ref h1, .ref h2, .ref h3, .int 0, .ref h4, .ref h5, .ref h6, .ref h7, .int 0, .int 1, .ref h8, .int 0, .ref h9, .int 0, .int 0, .null, .int 0, .int 0, .int 0, .int 0, .ref h10, .ref h11, .int 0, .int (-1), .int 0, .int 0, .int 0, .int 0, .int 0, .int 0, .int 0, .ref h12, .int 0, .ref h13, .int 0, .int 0, .int 0, .int 0, .ref h14, .ref h15, .ref h16, .ref h17, .ref h18, .int 0, .ref h19, .ref h20, .ref h21, .int 0, .int 0, .int 0, .ref h22, .ref h23, .ref h24, .int 0, .int 0, .ref h25, .ref h26, .ref h27]))] sz)) (va_A [(h0, .inr (12, [.int 0, .ref h1, .ref h2, .ref h3, .int 0, .ref h4, .ref h5, .ref h6, .ref h7, .int 0, .int 1, .ref h8, .int 0, .ref h9, .int 0, .int 0, .null, .int 0, .int 0, .int 0, .int 0, .ref h10, .ref h11, .int 0, .int (-1), .int 0, .int 0, .int 0, .int 0, .int 0, .int 0, .int 0, .ref h12, .int 0, .ref h13, .int 0, .int 0, .int 0, .int 0, .ref h14, .ref h15, .ref h16, .ref h17, .ref h18, .int 0, .ref h19, .ref h20, .ref h21, .int 0, .int 0, .int 0, .ref h22, .ref h23, .ref h24, .int 0, .int 0, .ref h25, .ref h26, .ref h27]))] sz)) 0 0 (va_A [(h0, .inr (12, [.int 0, .ref h1, .ref h2, .ref h3, .int 0, .ref h4, .ref h5, .ref h6, .ref h7, .int 0, .int 1, .ref h8, .int 0, .ref h9, .int 0, .int 0, .null, .int 0, .int 0, .int 0, .int 0, .ref h10, .ref h11, .int 0, .int (-1), .int 0, .int 0, .int 0, .int 0, .int 0, .int 0, .int 0, .ref h12, .int 0, .ref h13, .int 0, .int 0, .int 0, .int 0, .ref h14, .ref h15, .ref h16, .ref h17, .ref h18, .int 0, .ref h19, .ref h20, .ref h21, .int 0, .int 0, .int 0, .ref h22, .ref h23, .ref h24, .int 0, .int 0, .ref h25, .ref h26, .ref h27]))] sz) := by
  refine Met.ofW (cc := cX12_row) (maxL := 2) (ret := (some .int)) (by decide) rfl ?_
  intro p e s m args below meth c s₁ B hml hv
  obtain ⟨rfl, hsz, hP, hK, hD0, hO⟩ := hv
  have hx := B.exec
  have hb := B.bytes
  have hr := B.returns
  have hts := atoms_spec (ws := wsX12_row) B.pre
  have hown : s.vm.findClass RX12 = some m.cls := findClass_of_methodNamed B.named
  have hlocks := B.notSynchronized
  subst hsz
  have hD := hD0.self (sz := s.heap.size)
  generalize hAe : va_A [(h0, .inr (12, [.int 0, .ref h1, .ref h2, .ref h3, .int 0, .ref h4, .ref h5, .ref h6, .ref h7, .int 0, .int 1, .ref h8, .int 0, .ref h9, .int 0, .int 0, .null, .int 0, .int 0, .int 0, .int 0, .ref h10, .ref h11, .int 0, .int (-1), .int 0, .int 0, .int 0, .int 0, .int 0, .int 0, .int 0, .ref h12, .int 0, .ref h13, .int 0, .int 0, .int 0, .int 0, .ref h14, .ref h15, .ref h16, .ref h17, .ref h18, .int 0, .ref h19, .ref h20, .ref h21, .int 0, .int 0, .int 0, .ref h22, .ref h23, .ref h24, .int 0, .int 0, .ref h25, .ref h26, .ref h27]))] s.heap.size = A at hD ⊢
  have hA : ∀ q : Nat, s.heap.size ≤ q → A q := fun q h => by rw [← hAe]; exact Or.inr h
  have hS : va_S A s.heap s.heap [] := va_S.rf
  have hP : va_P (dC, dI) vwCl [(h0, .inr (12, [.int 0, .ref h1, .ref h2, .ref h3, .int 0, .ref h4, .ref h5, .ref h6, .ref h7, .int 0, .int 1, .ref h8, .int 0, .ref h9, .int 0, .int 0, .null, .int 0, .int 0, .int 0, .int 0, .ref h10, .ref h11, .int 0, .int (-1), .int 0, .int 0, .int 0, .int 0, .int 0, .int 0, .int 0, .ref h12, .int 0, .ref h13, .int 0, .int 0, .int 0, .int 0, .ref h14, .ref h15, .ref h16, .ref h17, .ref h18, .int 0, .ref h19, .ref h20, .ref h21, .int 0, .int 0, .int 0, .ref h22, .ref h23, .ref h24, .int 0, .int 0, .ref h25, .ref h26, .ref h27]))] s.heap := hP
  have hl := lv_entry ([.ref h0, .int p0]) (n := 2) (Nat.le_of_ble_eq_true rfl)
  rw [lg_entry_eq]
  generalize (lg_sl ([.ref h0, .int p0]) ++ List.replicate (2 - (lg_sl ([.ref h0, .int p0])).length) Slot.unset).toArray = ls at hl ⊢
  have hl : lv_has ls 2 [(0, .ref h0), (1, .int p0)] := hl
  refine w_gen hP hS (fun H locs hP hS => ?_)
  refine lv_aload_n hx hb dX12_row_0 rfl (lv_at hl 0 rfl) ?_
  refine lv_iconst (v := 0) hx hb dX12_row_1 (by decide) ?_
  refine va_put (D := (dC, dI)) (tys := TY cB cI cJ cZ cM) (ci := 12) (v := .int 0) (ty := .int) (C := RX12) (T := TX12) (N := 59) hx hb hts in_X12_row_X12 tyX12 tyX12_ok nmX12 hown hK hP hD hS 0 rfl rfl 15 (by decide) (hts (.fieldLink RX12 101 "OnlyHalvesModel" "thrown" "I") (by decide +kernel)) (fun _ h9 => h9) rfl (by decide +kernel) rfl rfl (Nat.le_of_ble_eq_true rfl) dX12_row_2 (fun H locs hP hD hS => ?_)
  have hP : va_P (dC, dI) vwCl [(h0, .inr (12, [.int 0, .ref h1, .ref h2, .ref h3, .int 0, .ref h4, .ref h5, .ref h6, .ref h7, .int 0, .int 1, .ref h8, .int 0, .ref h9, .int 0, .int 0, .null, .int 0, .int 0, .int 0, .int 0, .ref h10, .ref h11, .int 0, .int (-1), .int 0, .int 0, .int 0, .int 0, .int 0, .int 0, .int 0, .ref h12, .int 0, .ref h13, .int 0, .int 0, .int 0, .int 0, .ref h14, .ref h15, .ref h16, .ref h17, .ref h18, .int 0, .ref h19, .ref h20, .ref h21, .int 0, .int 0, .int 0, .ref h22, .ref h23, .ref h24, .int 0, .int 0, .ref h25, .ref h26, .ref h27]))] H := hP
  have hD : va_D A [(h0, .inr (12, [.int 0, .ref h1, .ref h2, .ref h3, .int 0, .ref h4, .ref h5, .ref h6, .ref h7, .int 0, .int 1, .ref h8, .int 0, .ref h9, .int 0, .int 0, .null, .int 0, .int 0, .int 0, .int 0, .ref h10, .ref h11, .int 0, .int (-1), .int 0, .int 0, .int 0, .int 0, .int 0, .int 0, .int 0, .ref h12, .int 0, .ref h13, .int 0, .int 0, .int 0, .int 0, .ref h14, .ref h15, .ref h16, .ref h17, .ref h18, .int 0, .ref h19, .ref h20, .ref h21, .int 0, .int 0, .int 0, .ref h22, .ref h23, .ref h24, .int 0, .int 0, .ref h25, .ref h26, .ref h27]))] := hD
  refine lv_iload_n hx hb dX12_row_5 rfl (lv_at hl 1 rfl) ?_
  refine lv_iconst (v := 0) hx hb dX12_row_6 (by decide) ?_
  refine lv_aload_n hx hb dX12_row_7 rfl (lv_at hl 0 rfl) ?_
  refine va_get (D := (dC, dI)) (tys := TY cB cI cJ cZ cM) (ci := 12) (v := .int 0) (C := RX12) (T := TX12) (N := 59) hx hb hts in_X12_row_X12 hown hK hP 0 rfl rfl 14 (by decide) (hts (.fieldLink RX12 104 "OnlyHalvesModel" "rowMany" "I") (by decide +kernel)) (fun _ h9 => h9) rfl dX12_row_8 ?_
  refine lv_iconst (v := 1) hx hb dX12_row_11 (by decide) ?_
  refine lv_isub hx hb dX12_row_12 ?_
  refine w_top (v' := .int (-1)) (by decide) ?_
  refine k_iS (As := [.int p0, .int 0, .int (-1)]) (rest := []) (wr := [(h0, .inr (12, [.int 0, .ref h1, .ref h2, .ref h3, .int 0, .ref h4, .ref h5, .ref h6, .ref h7, .int 0, .int 1, .ref h8, .int 0, .ref h9, .int 0, .int 0, .null, .int 0, .int 0, .int 0, .int 0, .ref h10, .ref h11, .int 0, .int (-1), .int 0, .int 0, .int 0, .int 0, .int 0, .int 0, .int 0, .ref h12, .int 0, .ref h13, .int 0, .int 0, .int 0, .int 0, .ref h14, .ref h15, .ref h16, .ref h17, .ref h18, .int 0, .ref h19, .ref h20, .ref h21, .int 0, .int 0, .int 0, .ref h22, .ref h23, .ref h24, .int 0, .int 0, .ref h25, .ref h26, .ref h27]))]) ⟨hx, hb, hml, hown, hts⟩ (k_X12_in_v2 l dC dI cB cI cJ cZ cM  H.size p0) (va_cwS 3 hts gX12_row_X12_in rfl rfl rfl (by decide +kernel) ⟨Nat.le_of_ble_eq_true rfl, Nat.le_of_ble_eq_true rfl⟩) hK hO hP hD hS hA [] [0] rfl rfl rfl (by decide) (by decide) (by decide) rfl hl.1 rfl (Nat.le_of_ble_eq_true rfl) dX12_row_13 ⟨Nat.le_of_ble_eq_true rfl, Nat.le_of_ble_eq_true rfl⟩ (fun r_1 u_3 H locs hw_4 hP hD hS => ?_)
  rcases hw_4 with ⟨rfl, rfl⟩
  have hP : va_P (dC, dI) vwCl [(h0, .inr (12, [.int 0, .ref h1, .ref h2, .ref h3, .int 0, .ref h4, .ref h5, .ref h6, .ref h7, .int 0, .int 1, .ref h8, .int 0, .ref h9, .int 0, .int 0, .null, .int 0, .int 0, .int 0, .int 0, .ref h10, .ref h11, .int 0, .int (-1), .int 0, .int 0, .int 0, .int 0, .int 0, .int 0, .int 0, .ref h12, .int 0, .ref h13, .int 0, .int 0, .int 0, .int 0, .ref h14, .ref h15, .ref h16, .ref h17, .ref h18, .int 0, .ref h19, .ref h20, .ref h21, .int 0, .int 0, .int 0, .ref h22, .ref h23, .ref h24, .int 0, .int 0, .ref h25, .ref h26, .ref h27]))] H := hP
  have hD : va_D A [(h0, .inr (12, [.int 0, .ref h1, .ref h2, .ref h3, .int 0, .ref h4, .ref h5, .ref h6, .ref h7, .int 0, .int 1, .ref h8, .int 0, .ref h9, .int 0, .int 0, .null, .int 0, .int 0, .int 0, .int 0, .ref h10, .ref h11, .int 0, .int (-1), .int 0, .int 0, .int 0, .int 0, .int 0, .int 0, .int 0, .ref h12, .int 0, .ref h13, .int 0, .int 0, .int 0, .int 0, .ref h14, .ref h15, .ref h16, .ref h17, .ref h18, .int 0, .ref h19, .ref h20, .ref h21, .int 0, .int 0, .int 0, .ref h22, .ref h23, .ref h24, .int 0, .int 0, .ref h25, .ref h26, .ref h27]))] := hD
  refine lv_if_eq (tgt := 28) hx hb dX12_row_16 (by decide) (fun c_5 => ?_) (fun c_5 => absurd c_5 (by decide))
  refine lv_aload_n hx hb dX12_row_28 rfl (lv_at hl 0 rfl) ?_
  refine k_iV (As := []) (rest := []) (wr := []) ⟨hx, hb, hml, hown, hts⟩ (k_X12_lost l dC dI cB cI cJ cZ cM h0 h1 h2 h3 h4 h5 h6 h7 h8 h9 h10 h11 h12 h13 h14 h15 h16 h17 h18 h19 h20 h21 h22 h23 h24 h25 h26 h27 H.size ) (cwV 0 hts gX12_row_X12_lost rfl rfl rfl (by decide +kernel) ⟨Nat.le_of_ble_eq_true rfl, Nat.le_of_ble_eq_true rfl⟩) hK hO hP hD hS hA [0] [] rfl rfl rfl (by decide) (by decide) (by decide) 12 0 rfl rfl rfl hl.1 rfl (Nat.le_of_ble_eq_true rfl) dX12_row_29 ⟨Nat.le_of_ble_eq_true rfl, Nat.le_of_ble_eq_true rfl⟩ (fun r_6 u_8 H locs hw_9 hP hD hS => ?_)
  rcases hw_9 with ⟨rfl, rfl⟩
  have hP : va_P (dC, dI) vwCl [(h0, .inr (12, [.int 0, .ref h1, .ref h2, .ref h3, .int 0, .ref h4, .ref h5, .ref h6, .ref h7, .int 0, .int 1, .ref h8, .int 0, .ref h9, .int 0, .int 1, .null, .int 0, .int 0, .int 0, .int 0, .ref h10, .ref h11, .int 0, .int (-1), .int 0, .int 0, .int 0, .int 0, .int 0, .int 0, .int 0, .ref h12, .int 0, .ref h13, .int 0, .int 0, .int 0, .int 0, .ref h14, .ref h15, .ref h16, .ref h17, .ref h18, .int 0, .ref h19, .ref h20, .ref h21, .int 0, .int 0, .int 0, .ref h22, .ref h23, .ref h24, .int 0, .int 0, .ref h25, .ref h26, .ref h27]))] H := hP
  have hD : va_D A [(h0, .inr (12, [.int 0, .ref h1, .ref h2, .ref h3, .int 0, .ref h4, .ref h5, .ref h6, .ref h7, .int 0, .int 1, .ref h8, .int 0, .ref h9, .int 0, .int 1, .null, .int 0, .int 0, .int 0, .int 0, .ref h10, .ref h11, .int 0, .int (-1), .int 0, .int 0, .int 0, .int 0, .int 0, .int 0, .int 0, .ref h12, .int 0, .ref h13, .int 0, .int 0, .int 0, .int 0, .ref h14, .ref h15, .ref h16, .ref h17, .ref h18, .int 0, .ref h19, .ref h20, .ref h21, .int 0, .int 0, .int 0, .ref h22, .ref h23, .ref h24, .int 0, .int 0, .ref h25, .ref h26, .ref h27]))] := hD
  have hP9 := hP
  exact W.iret (v := 0) hx hb hr (fun t ht hW => ⟨⟨0, [(h0, .inr (12, [.int 0, .ref h1, .ref h2, .ref h3, .int 0, .ref h4, .ref h5, .ref h6, .ref h7, .int 0, .int 1, .ref h8, .int 0, .ref h9, .int 0, .int 1, .null, .int 0, .int 0, .int 0, .int 0, .ref h10, .ref h11, .int 0, .int (-1), .int 0, .int 0, .int 0, .int 0, .int 0, .int 0, .int 0, .ref h12, .int 0, .ref h13, .int 0, .int 0, .int 0, .int 0, .ref h14, .ref h15, .ref h16, .ref h17, .ref h18, .int 0, .ref h19, .ref h20, .ref h21, .int 0, .int 0, .int 0, .ref h22, .ref h23, .ref h24, .int 0, .int 0, .ref h25, .ref h26, .ref h27]))], rfl, ⟨rfl, rfl⟩, by rw [ht]; exact hP9, hD⟩, hS.F ht⟩) hS.2.2 dX12_row_32
